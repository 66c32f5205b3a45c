section
-- ===== PART A: goes FIRST, ahead of the names: the tables' words, and 'selects' of the private methods out of them =====
/-- a private method of a class that the tables say can be made, by its rows of tables_1 -/
def lw_okq (q : MethodName × Nat) : Prop := (q.1.cls ≠ "java/lang/invoke/MethodHandle" ∧ q.1.cls ≠ "java/lang/invoke/VarHandle") ∧ Cond.instantiable q.1.cls q.2 ∈ tables_1 ∧ Cond.privateMethod q.1 ∈ tables_1 ∧ Cond.instanceMethod q.1 ∈ tables_1
theorem lw_p0 : lw_okq (⟨"RoamingNet", "passOneTick", "()V"⟩, 6) := ⟨⟨by decide +kernel, by decide +kernel⟩, List.mem_of_getElem? (i := 11) (by decide +kernel), List.mem_of_getElem? (i := 282) (by decide +kernel), List.mem_of_getElem? (i := 283) (by decide +kernel)⟩
theorem lw_p1 : lw_okq (⟨"RoamingNet", "advertise", "(I)V"⟩, 6) := ⟨⟨by decide +kernel, by decide +kernel⟩, List.mem_of_getElem? (i := 11) (by decide +kernel), List.mem_of_getElem? (i := 286) (by decide +kernel), List.mem_of_getElem? (i := 287) (by decide +kernel)⟩
theorem lw_p2 : lw_okq (⟨"RoamingNet$Wire", "sendInNetwork", "(IIII)LRoamingNet$Message;"⟩, 3) := ⟨⟨by decide +kernel, by decide +kernel⟩, List.mem_of_getElem? (i := 22) (by decide +kernel), List.mem_of_getElem? (i := 290) (by decide +kernel), List.mem_of_getElem? (i := 291) (by decide +kernel)⟩
theorem lw_p3 : lw_okq (⟨"RoamingNet$Wire", "sendTo", "(IIII)LRoamingNet$Message;"⟩, 3) := ⟨⟨by decide +kernel, by decide +kernel⟩, List.mem_of_getElem? (i := 22) (by decide +kernel), List.mem_of_getElem? (i := 294) (by decide +kernel), List.mem_of_getElem? (i := 295) (by decide +kernel)⟩
theorem lw_p4 : lw_okq (⟨"RoamingNet$Wire", "nextRow", "()LRoamingNet$Message;"⟩, 3) := ⟨⟨by decide +kernel, by decide +kernel⟩, List.mem_of_getElem? (i := 22) (by decide +kernel), List.mem_of_getElem? (i := 298) (by decide +kernel), List.mem_of_getElem? (i := 299) (by decide +kernel)⟩
theorem lw_p5 : lw_okq (⟨"RoamingNet$Wire", "isFull", "()Z"⟩, 3) := ⟨⟨by decide +kernel, by decide +kernel⟩, List.mem_of_getElem? (i := 22) (by decide +kernel), List.mem_of_getElem? (i := 302) (by decide +kernel), List.mem_of_getElem? (i := 303) (by decide +kernel)⟩
theorem lw_p6 : lw_okq (⟨"RoamingNet$Message", "begin", "(IIII)V"⟩, 9) := ⟨⟨by decide +kernel, by decide +kernel⟩, List.mem_of_getElem? (i := 29) (by decide +kernel), List.mem_of_getElem? (i := 306) (by decide +kernel), List.mem_of_getElem? (i := 307) (by decide +kernel)⟩
theorem lw_p7 : lw_okq (⟨"RoamingNet$Mobile", "notice", "()V"⟩, 14) := ⟨⟨by decide +kernel, by decide +kernel⟩, List.mem_of_getElem? (i := 112) (by decide +kernel), List.mem_of_getElem? (i := 310) (by decide +kernel), List.mem_of_getElem? (i := 311) (by decide +kernel)⟩
theorem lw_p8 : lw_okq (⟨"RoamingNet$Mobile", "registerWith", "(I)V"⟩, 14) := ⟨⟨by decide +kernel, by decide +kernel⟩, List.mem_of_getElem? (i := 112) (by decide +kernel), List.mem_of_getElem? (i := 314) (by decide +kernel), List.mem_of_getElem? (i := 315) (by decide +kernel)⟩
theorem lw_p9 : lw_okq (⟨"RoamingNet$Message", "requestSeal", "(I)I"⟩, 9) := ⟨⟨by decide +kernel, by decide +kernel⟩, List.mem_of_getElem? (i := 29) (by decide +kernel), List.mem_of_getElem? (i := 319) (by decide +kernel), List.mem_of_getElem? (i := 320) (by decide +kernel)⟩
theorem lw_p10 : lw_okq (⟨"RoamingNet$Correspondent", "resendIfDue", "(I)V"⟩, 5) := ⟨⟨by decide +kernel, by decide +kernel⟩, List.mem_of_getElem? (i := 223) (by decide +kernel), List.mem_of_getElem? (i := 327) (by decide +kernel), List.mem_of_getElem? (i := 328) (by decide +kernel)⟩
theorem lw_p11 : lw_okq (⟨"RoamingNet$Correspondent", "pump", "(I)V"⟩, 5) := ⟨⟨by decide +kernel, by decide +kernel⟩, List.mem_of_getElem? (i := 223) (by decide +kernel), List.mem_of_getElem? (i := 336) (by decide +kernel), List.mem_of_getElem? (i := 337) (by decide +kernel)⟩
theorem lw_p12 : lw_okq (⟨"RoamingNet$Wire", "holds", "(I)Z"⟩, 3) := ⟨⟨by decide +kernel, by decide +kernel⟩, List.mem_of_getElem? (i := 22) (by decide +kernel), List.mem_of_getElem? (i := 344) (by decide +kernel), List.mem_of_getElem? (i := 345) (by decide +kernel)⟩
theorem lw_p13 : lw_okq (⟨"RoamingNet$Message", "copyFrom", "(LRoamingNet$Message;)V"⟩, 9) := ⟨⟨by decide +kernel, by decide +kernel⟩, List.mem_of_getElem? (i := 29) (by decide +kernel), List.mem_of_getElem? (i := 348) (by decide +kernel), List.mem_of_getElem? (i := 349) (by decide +kernel)⟩
theorem lw_p14 : lw_okq (⟨"RoamingNet$Wire", "remove", "(I)V"⟩, 3) := ⟨⟨by decide +kernel, by decide +kernel⟩, List.mem_of_getElem? (i := 22) (by decide +kernel), List.mem_of_getElem? (i := 352) (by decide +kernel), List.mem_of_getElem? (i := 353) (by decide +kernel)⟩
theorem lw_p15 : lw_okq (⟨"RoamingNet", "handOver", "(LRoamingNet$Message;)V"⟩, 6) := ⟨⟨by decide +kernel, by decide +kernel⟩, List.mem_of_getElem? (i := 11) (by decide +kernel), List.mem_of_getElem? (i := 356) (by decide +kernel), List.mem_of_getElem? (i := 357) (by decide +kernel)⟩
def lw_privs_1 : List (MethodName × Nat) := [(⟨"RoamingNet", "passOneTick", "()V"⟩, 6), (⟨"RoamingNet", "advertise", "(I)V"⟩, 6), (⟨"RoamingNet$Wire", "sendInNetwork", "(IIII)LRoamingNet$Message;"⟩, 3), (⟨"RoamingNet$Wire", "sendTo", "(IIII)LRoamingNet$Message;"⟩, 3), (⟨"RoamingNet$Wire", "nextRow", "()LRoamingNet$Message;"⟩, 3), (⟨"RoamingNet$Wire", "isFull", "()Z"⟩, 3), (⟨"RoamingNet$Message", "begin", "(IIII)V"⟩, 9), (⟨"RoamingNet$Mobile", "notice", "()V"⟩, 14), (⟨"RoamingNet$Mobile", "registerWith", "(I)V"⟩, 14), (⟨"RoamingNet$Message", "requestSeal", "(I)I"⟩, 9), (⟨"RoamingNet$Correspondent", "resendIfDue", "(I)V"⟩, 5), (⟨"RoamingNet$Correspondent", "pump", "(I)V"⟩, 5), (⟨"RoamingNet$Wire", "holds", "(I)Z"⟩, 3), (⟨"RoamingNet$Message", "copyFrom", "(LRoamingNet$Message;)V"⟩, 9), (⟨"RoamingNet$Wire", "remove", "(I)V"⟩, 3), (⟨"RoamingNet", "handOver", "(LRoamingNet$Message;)V"⟩, 6)]
theorem lw_r1 : ∀ q ∈ lw_privs_1, lw_okq q := List.forall_mem_cons.mpr ⟨lw_p0, List.forall_mem_cons.mpr ⟨lw_p1, List.forall_mem_cons.mpr ⟨lw_p2, List.forall_mem_cons.mpr ⟨lw_p3, List.forall_mem_cons.mpr ⟨lw_p4, List.forall_mem_cons.mpr ⟨lw_p5, List.forall_mem_cons.mpr ⟨lw_p6, List.forall_mem_cons.mpr ⟨lw_p7, List.forall_mem_cons.mpr ⟨lw_p8, List.forall_mem_cons.mpr ⟨lw_p9, List.forall_mem_cons.mpr ⟨lw_p10, List.forall_mem_cons.mpr ⟨lw_p11, List.forall_mem_cons.mpr ⟨lw_p12, List.forall_mem_cons.mpr ⟨lw_p13, List.forall_mem_cons.mpr ⟨lw_p14, List.forall_mem_cons.mpr ⟨lw_p15, fun _ h => absurd h List.not_mem_nil⟩⟩⟩⟩⟩⟩⟩⟩⟩⟩⟩⟩⟩⟩⟩⟩
theorem lw_p16 : lw_okq (⟨"RoamingNet$Mobile", "receive", "(LRoamingNet$Message;)V"⟩, 14) := ⟨⟨by decide +kernel, by decide +kernel⟩, List.mem_of_getElem? (i := 112) (by decide +kernel), List.mem_of_getElem? (i := 360) (by decide +kernel), List.mem_of_getElem? (i := 361) (by decide +kernel)⟩
theorem lw_p17 : lw_okq (⟨"RoamingNet$Mobile", "takeAdvert", "(I)V"⟩, 14) := ⟨⟨by decide +kernel, by decide +kernel⟩, List.mem_of_getElem? (i := 112) (by decide +kernel), List.mem_of_getElem? (i := 364) (by decide +kernel), List.mem_of_getElem? (i := 365) (by decide +kernel)⟩
theorem lw_p18 : lw_okq (⟨"RoamingNet$Mobile", "endsSoon", "()Z"⟩, 14) := ⟨⟨by decide +kernel, by decide +kernel⟩, List.mem_of_getElem? (i := 112) (by decide +kernel), List.mem_of_getElem? (i := 368) (by decide +kernel), List.mem_of_getElem? (i := 369) (by decide +kernel)⟩
theorem lw_p19 : lw_okq (⟨"RoamingNet$Mobile", "takeReply", "(LRoamingNet$Message;)V"⟩, 14) := ⟨⟨by decide +kernel, by decide +kernel⟩, List.mem_of_getElem? (i := 112) (by decide +kernel), List.mem_of_getElem? (i := 372) (by decide +kernel), List.mem_of_getElem? (i := 373) (by decide +kernel)⟩
theorem lw_p20 : lw_okq (⟨"RoamingNet$Message", "replySeal", "(I)I"⟩, 9) := ⟨⟨by decide +kernel, by decide +kernel⟩, List.mem_of_getElem? (i := 29) (by decide +kernel), List.mem_of_getElem? (i := 376) (by decide +kernel), List.mem_of_getElem? (i := 377) (by decide +kernel)⟩
theorem lw_p21 : lw_okq (⟨"RoamingNet$Mobile", "takeData", "(I)V"⟩, 14) := ⟨⟨by decide +kernel, by decide +kernel⟩, List.mem_of_getElem? (i := 112) (by decide +kernel), List.mem_of_getElem? (i := 380) (by decide +kernel), List.mem_of_getElem? (i := 381) (by decide +kernel)⟩
theorem lw_p22 : lw_okq (⟨"RoamingNet$Correspondent", "receive", "(LRoamingNet$Message;)V"⟩, 5) := ⟨⟨by decide +kernel, by decide +kernel⟩, List.mem_of_getElem? (i := 223) (by decide +kernel), List.mem_of_getElem? (i := 384) (by decide +kernel), List.mem_of_getElem? (i := 385) (by decide +kernel)⟩
theorem lw_p23 : lw_okq (⟨"RoamingNet$HomeAgent", "receive", "(LRoamingNet$Message;)V"⟩, 6) := ⟨⟨by decide +kernel, by decide +kernel⟩, List.mem_of_getElem? (i := 167) (by decide +kernel), List.mem_of_getElem? (i := 389) (by decide +kernel), List.mem_of_getElem? (i := 390) (by decide +kernel)⟩
theorem lw_p24 : lw_okq (⟨"RoamingNet$HomeAgent", "takeRequest", "(LRoamingNet$Message;)V"⟩, 6) := ⟨⟨by decide +kernel, by decide +kernel⟩, List.mem_of_getElem? (i := 167) (by decide +kernel), List.mem_of_getElem? (i := 393) (by decide +kernel), List.mem_of_getElem? (i := 394) (by decide +kernel)⟩
theorem lw_p25 : lw_okq (⟨"RoamingNet$HomeAgent", "judge", "(LRoamingNet$Message;)I"⟩, 6) := ⟨⟨by decide +kernel, by decide +kernel⟩, List.mem_of_getElem? (i := 167) (by decide +kernel), List.mem_of_getElem? (i := 397) (by decide +kernel), List.mem_of_getElem? (i := 398) (by decide +kernel)⟩
theorem lw_p26 : lw_okq (⟨"RoamingNet$HomeAgent", "takeData", "(II)V"⟩, 6) := ⟨⟨by decide +kernel, by decide +kernel⟩, List.mem_of_getElem? (i := 167) (by decide +kernel), List.mem_of_getElem? (i := 408) (by decide +kernel), List.mem_of_getElem? (i := 409) (by decide +kernel)⟩
theorem lw_p27 : lw_okq (⟨"RoamingNet$HomeAgent", "isBound", "(I)Z"⟩, 6) := ⟨⟨by decide +kernel, by decide +kernel⟩, List.mem_of_getElem? (i := 167) (by decide +kernel), List.mem_of_getElem? (i := 412) (by decide +kernel), List.mem_of_getElem? (i := 413) (by decide +kernel)⟩
theorem lw_p28 : lw_okq (⟨"RoamingNet$ForeignAgent", "receive", "(LRoamingNet$Message;)V"⟩, 6) := ⟨⟨by decide +kernel, by decide +kernel⟩, List.mem_of_getElem? (i := 197) (by decide +kernel), List.mem_of_getElem? (i := 416) (by decide +kernel), List.mem_of_getElem? (i := 417) (by decide +kernel)⟩
theorem lw_p29 : lw_okq (⟨"RoamingNet$ForeignAgent", "takeRequest", "(LRoamingNet$Message;)V"⟩, 6) := ⟨⟨by decide +kernel, by decide +kernel⟩, List.mem_of_getElem? (i := 197) (by decide +kernel), List.mem_of_getElem? (i := 420) (by decide +kernel), List.mem_of_getElem? (i := 421) (by decide +kernel)⟩
theorem lw_p30 : lw_okq (⟨"RoamingNet$ForeignAgent", "takesPlace", "(I)Z"⟩, 6) := ⟨⟨by decide +kernel, by decide +kernel⟩, List.mem_of_getElem? (i := 197) (by decide +kernel), List.mem_of_getElem? (i := 424) (by decide +kernel), List.mem_of_getElem? (i := 425) (by decide +kernel)⟩
theorem lw_p31 : lw_okq (⟨"RoamingNet$ForeignAgent", "isVisited", "(I)Z"⟩, 6) := ⟨⟨by decide +kernel, by decide +kernel⟩, List.mem_of_getElem? (i := 197) (by decide +kernel), List.mem_of_getElem? (i := 428) (by decide +kernel), List.mem_of_getElem? (i := 429) (by decide +kernel)⟩
def lw_privs_2 : List (MethodName × Nat) := [(⟨"RoamingNet$Mobile", "receive", "(LRoamingNet$Message;)V"⟩, 14), (⟨"RoamingNet$Mobile", "takeAdvert", "(I)V"⟩, 14), (⟨"RoamingNet$Mobile", "endsSoon", "()Z"⟩, 14), (⟨"RoamingNet$Mobile", "takeReply", "(LRoamingNet$Message;)V"⟩, 14), (⟨"RoamingNet$Message", "replySeal", "(I)I"⟩, 9), (⟨"RoamingNet$Mobile", "takeData", "(I)V"⟩, 14), (⟨"RoamingNet$Correspondent", "receive", "(LRoamingNet$Message;)V"⟩, 5), (⟨"RoamingNet$HomeAgent", "receive", "(LRoamingNet$Message;)V"⟩, 6), (⟨"RoamingNet$HomeAgent", "takeRequest", "(LRoamingNet$Message;)V"⟩, 6), (⟨"RoamingNet$HomeAgent", "judge", "(LRoamingNet$Message;)I"⟩, 6), (⟨"RoamingNet$HomeAgent", "takeData", "(II)V"⟩, 6), (⟨"RoamingNet$HomeAgent", "isBound", "(I)Z"⟩, 6), (⟨"RoamingNet$ForeignAgent", "receive", "(LRoamingNet$Message;)V"⟩, 6), (⟨"RoamingNet$ForeignAgent", "takeRequest", "(LRoamingNet$Message;)V"⟩, 6), (⟨"RoamingNet$ForeignAgent", "takesPlace", "(I)Z"⟩, 6), (⟨"RoamingNet$ForeignAgent", "isVisited", "(I)Z"⟩, 6)]
theorem lw_r2 : ∀ q ∈ lw_privs_2, lw_okq q := List.forall_mem_cons.mpr ⟨lw_p16, List.forall_mem_cons.mpr ⟨lw_p17, List.forall_mem_cons.mpr ⟨lw_p18, List.forall_mem_cons.mpr ⟨lw_p19, List.forall_mem_cons.mpr ⟨lw_p20, List.forall_mem_cons.mpr ⟨lw_p21, List.forall_mem_cons.mpr ⟨lw_p22, List.forall_mem_cons.mpr ⟨lw_p23, List.forall_mem_cons.mpr ⟨lw_p24, List.forall_mem_cons.mpr ⟨lw_p25, List.forall_mem_cons.mpr ⟨lw_p26, List.forall_mem_cons.mpr ⟨lw_p27, List.forall_mem_cons.mpr ⟨lw_p28, List.forall_mem_cons.mpr ⟨lw_p29, List.forall_mem_cons.mpr ⟨lw_p30, List.forall_mem_cons.mpr ⟨lw_p31, fun _ h => absurd h List.not_mem_nil⟩⟩⟩⟩⟩⟩⟩⟩⟩⟩⟩⟩⟩⟩⟩⟩
theorem lw_p32 : lw_okq (⟨"RoamingNet$ForeignAgent", "hasEntry", "(I)Z"⟩, 6) := ⟨⟨by decide +kernel, by decide +kernel⟩, List.mem_of_getElem? (i := 197) (by decide +kernel), List.mem_of_getElem? (i := 432) (by decide +kernel), List.mem_of_getElem? (i := 433) (by decide +kernel)⟩
theorem lw_p33 : lw_okq (⟨"RoamingNet$ForeignAgent", "isCrowded", "()Z"⟩, 6) := ⟨⟨by decide +kernel, by decide +kernel⟩, List.mem_of_getElem? (i := 197) (by decide +kernel), List.mem_of_getElem? (i := 436) (by decide +kernel), List.mem_of_getElem? (i := 437) (by decide +kernel)⟩
theorem lw_p34 : lw_okq (⟨"RoamingNet$Wire", "sendOn", "(LRoamingNet$Message;II)V"⟩, 3) := ⟨⟨by decide +kernel, by decide +kernel⟩, List.mem_of_getElem? (i := 22) (by decide +kernel), List.mem_of_getElem? (i := 441) (by decide +kernel), List.mem_of_getElem? (i := 442) (by decide +kernel)⟩
theorem lw_p35 : lw_okq (⟨"RoamingNet$ForeignAgent", "takeReply", "(LRoamingNet$Message;)V"⟩, 6) := ⟨⟨by decide +kernel, by decide +kernel⟩, List.mem_of_getElem? (i := 197) (by decide +kernel), List.mem_of_getElem? (i := 446) (by decide +kernel), List.mem_of_getElem? (i := 447) (by decide +kernel)⟩
theorem lw_p36 : lw_okq (⟨"RoamingNet$ForeignAgent", "takeTunnel", "(II)V"⟩, 6) := ⟨⟨by decide +kernel, by decide +kernel⟩, List.mem_of_getElem? (i := 197) (by decide +kernel), List.mem_of_getElem? (i := 450) (by decide +kernel), List.mem_of_getElem? (i := 451) (by decide +kernel)⟩
theorem lw_p37 : lw_okq (⟨"RoamingNet$Message", "summary", "()I"⟩, 9) := ⟨⟨by decide +kernel, by decide +kernel⟩, List.mem_of_getElem? (i := 29) (by decide +kernel), List.mem_of_getElem? (i := 480) (by decide +kernel), List.mem_of_getElem? (i := 481) (by decide +kernel)⟩
theorem lw_p38 : lw_okq (⟨"RoamingNetModel", "pump", "(I)V"⟩, 29) := ⟨⟨by decide +kernel, by decide +kernel⟩, List.mem_of_getElem? (i := 515) (by decide +kernel), List.mem_of_getElem? (i := 625) (by decide +kernel), List.mem_of_getElem? (i := 626) (by decide +kernel)⟩
theorem lw_p39 : lw_okq (⟨"RoamingNetModel", "send", "(IIIIIIIII)V"⟩, 29) := ⟨⟨by decide +kernel, by decide +kernel⟩, List.mem_of_getElem? (i := 515) (by decide +kernel), List.mem_of_getElem? (i := 629) (by decide +kernel), List.mem_of_getElem? (i := 630) (by decide +kernel)⟩
theorem lw_p40 : lw_okq (⟨"RoamingNetModel", "isMessage", "(I)Z"⟩, 29) := ⟨⟨by decide +kernel, by decide +kernel⟩, List.mem_of_getElem? (i := 515) (by decide +kernel), List.mem_of_getElem? (i := 637) (by decide +kernel), List.mem_of_getElem? (i := 638) (by decide +kernel)⟩
theorem lw_p41 : lw_okq (⟨"RoamingNetModel", "take", "(I)V"⟩, 29) := ⟨⟨by decide +kernel, by decide +kernel⟩, List.mem_of_getElem? (i := 515) (by decide +kernel), List.mem_of_getElem? (i := 641) (by decide +kernel), List.mem_of_getElem? (i := 642) (by decide +kernel)⟩
theorem lw_p42 : lw_okq (⟨"RoamingNetModel", "advert", "(II)V"⟩, 29) := ⟨⟨by decide +kernel, by decide +kernel⟩, List.mem_of_getElem? (i := 515) (by decide +kernel), List.mem_of_getElem? (i := 645) (by decide +kernel), List.mem_of_getElem? (i := 646) (by decide +kernel)⟩
theorem lw_p43 : lw_okq (⟨"RoamingNetModel", "register", "(II)V"⟩, 29) := ⟨⟨by decide +kernel, by decide +kernel⟩, List.mem_of_getElem? (i := 515) (by decide +kernel), List.mem_of_getElem? (i := 649) (by decide +kernel), List.mem_of_getElem? (i := 650) (by decide +kernel)⟩
theorem lw_p44 : lw_okq (⟨"RoamingNetModel", "replyAtMobile", "(I)V"⟩, 29) := ⟨⟨by decide +kernel, by decide +kernel⟩, List.mem_of_getElem? (i := 515) (by decide +kernel), List.mem_of_getElem? (i := 660) (by decide +kernel), List.mem_of_getElem? (i := 661) (by decide +kernel)⟩
theorem lw_p45 : lw_okq (⟨"RoamingNetModel", "dataAtMobile", "(I)V"⟩, 29) := ⟨⟨by decide +kernel, by decide +kernel⟩, List.mem_of_getElem? (i := 515) (by decide +kernel), List.mem_of_getElem? (i := 667) (by decide +kernel), List.mem_of_getElem? (i := 668) (by decide +kernel)⟩
theorem lw_p46 : lw_okq (⟨"RoamingNetModel", "ack", "(I)V"⟩, 29) := ⟨⟨by decide +kernel, by decide +kernel⟩, List.mem_of_getElem? (i := 515) (by decide +kernel), List.mem_of_getElem? (i := 671) (by decide +kernel), List.mem_of_getElem? (i := 672) (by decide +kernel)⟩
theorem lw_p47 : lw_okq (⟨"RoamingNetModel", "requestAtHome", "(I)V"⟩, 29) := ⟨⟨by decide +kernel, by decide +kernel⟩, List.mem_of_getElem? (i := 515) (by decide +kernel), List.mem_of_getElem? (i := 675) (by decide +kernel), List.mem_of_getElem? (i := 676) (by decide +kernel)⟩
def lw_privs_3 : List (MethodName × Nat) := [(⟨"RoamingNet$ForeignAgent", "hasEntry", "(I)Z"⟩, 6), (⟨"RoamingNet$ForeignAgent", "isCrowded", "()Z"⟩, 6), (⟨"RoamingNet$Wire", "sendOn", "(LRoamingNet$Message;II)V"⟩, 3), (⟨"RoamingNet$ForeignAgent", "takeReply", "(LRoamingNet$Message;)V"⟩, 6), (⟨"RoamingNet$ForeignAgent", "takeTunnel", "(II)V"⟩, 6), (⟨"RoamingNet$Message", "summary", "()I"⟩, 9), (⟨"RoamingNetModel", "pump", "(I)V"⟩, 29), (⟨"RoamingNetModel", "send", "(IIIIIIIII)V"⟩, 29), (⟨"RoamingNetModel", "isMessage", "(I)Z"⟩, 29), (⟨"RoamingNetModel", "take", "(I)V"⟩, 29), (⟨"RoamingNetModel", "advert", "(II)V"⟩, 29), (⟨"RoamingNetModel", "register", "(II)V"⟩, 29), (⟨"RoamingNetModel", "replyAtMobile", "(I)V"⟩, 29), (⟨"RoamingNetModel", "dataAtMobile", "(I)V"⟩, 29), (⟨"RoamingNetModel", "ack", "(I)V"⟩, 29), (⟨"RoamingNetModel", "requestAtHome", "(I)V"⟩, 29)]
theorem lw_r3 : ∀ q ∈ lw_privs_3, lw_okq q := List.forall_mem_cons.mpr ⟨lw_p32, List.forall_mem_cons.mpr ⟨lw_p33, List.forall_mem_cons.mpr ⟨lw_p34, List.forall_mem_cons.mpr ⟨lw_p35, List.forall_mem_cons.mpr ⟨lw_p36, List.forall_mem_cons.mpr ⟨lw_p37, List.forall_mem_cons.mpr ⟨lw_p38, List.forall_mem_cons.mpr ⟨lw_p39, List.forall_mem_cons.mpr ⟨lw_p40, List.forall_mem_cons.mpr ⟨lw_p41, List.forall_mem_cons.mpr ⟨lw_p42, List.forall_mem_cons.mpr ⟨lw_p43, List.forall_mem_cons.mpr ⟨lw_p44, List.forall_mem_cons.mpr ⟨lw_p45, List.forall_mem_cons.mpr ⟨lw_p46, List.forall_mem_cons.mpr ⟨lw_p47, fun _ h => absurd h List.not_mem_nil⟩⟩⟩⟩⟩⟩⟩⟩⟩⟩⟩⟩⟩⟩⟩⟩
theorem lw_p48 : lw_okq (⟨"RoamingNetModel", "dataAtHome", "(I)V"⟩, 29) := ⟨⟨by decide +kernel, by decide +kernel⟩, List.mem_of_getElem? (i := 515) (by decide +kernel), List.mem_of_getElem? (i := 679) (by decide +kernel), List.mem_of_getElem? (i := 680) (by decide +kernel)⟩
theorem lw_p49 : lw_okq (⟨"RoamingNetModel", "requestAtForeign", "(II)V"⟩, 29) := ⟨⟨by decide +kernel, by decide +kernel⟩, List.mem_of_getElem? (i := 515) (by decide +kernel), List.mem_of_getElem? (i := 683) (by decide +kernel), List.mem_of_getElem? (i := 684) (by decide +kernel)⟩
theorem lw_p50 : lw_okq (⟨"RoamingNetModel", "takesPlace", "(II)Z"⟩, 29) := ⟨⟨by decide +kernel, by decide +kernel⟩, List.mem_of_getElem? (i := 515) (by decide +kernel), List.mem_of_getElem? (i := 687) (by decide +kernel), List.mem_of_getElem? (i := 688) (by decide +kernel)⟩
theorem lw_p51 : lw_okq (⟨"RoamingNetModel", "replyAtForeign", "(II)V"⟩, 29) := ⟨⟨by decide +kernel, by decide +kernel⟩, List.mem_of_getElem? (i := 515) (by decide +kernel), List.mem_of_getElem? (i := 691) (by decide +kernel), List.mem_of_getElem? (i := 692) (by decide +kernel)⟩
theorem lw_p52 : lw_okq (⟨"RoamingNetModel", "oneTick", "()V"⟩, 29) := ⟨⟨by decide +kernel, by decide +kernel⟩, List.mem_of_getElem? (i := 515) (by decide +kernel), List.mem_of_getElem? (i := 711) (by decide +kernel), List.mem_of_getElem? (i := 712) (by decide +kernel)⟩
theorem lw_p53 : lw_okq (⟨"RoamingNetModel", "tickMobile", "(I)V"⟩, 29) := ⟨⟨by decide +kernel, by decide +kernel⟩, List.mem_of_getElem? (i := 515) (by decide +kernel), List.mem_of_getElem? (i := 715) (by decide +kernel), List.mem_of_getElem? (i := 716) (by decide +kernel)⟩
def lw_privs_4 : List (MethodName × Nat) := [(⟨"RoamingNetModel", "dataAtHome", "(I)V"⟩, 29), (⟨"RoamingNetModel", "requestAtForeign", "(II)V"⟩, 29), (⟨"RoamingNetModel", "takesPlace", "(II)Z"⟩, 29), (⟨"RoamingNetModel", "replyAtForeign", "(II)V"⟩, 29), (⟨"RoamingNetModel", "oneTick", "()V"⟩, 29), (⟨"RoamingNetModel", "tickMobile", "(I)V"⟩, 29)]
theorem lw_r4 : ∀ q ∈ lw_privs_4, lw_okq q := List.forall_mem_cons.mpr ⟨lw_p48, List.forall_mem_cons.mpr ⟨lw_p49, List.forall_mem_cons.mpr ⟨lw_p50, List.forall_mem_cons.mpr ⟨lw_p51, List.forall_mem_cons.mpr ⟨lw_p52, List.forall_mem_cons.mpr ⟨lw_p53, fun _ h => absurd h List.not_mem_nil⟩⟩⟩⟩⟩⟩
def lw_privs : List (MethodName × Nat) := lw_privs_1 ++ (lw_privs_2 ++ (lw_privs_3 ++ (lw_privs_4)))
def lw_tbl : List Cond := k2_sels lw_privs ++ tables_1
theorem lw_privs_ok : ∀ q ∈ lw_privs, lw_okq q := by
  show ∀ q ∈ lw_privs_1 ++ (lw_privs_2 ++ (lw_privs_3 ++ (lw_privs_4))), lw_okq q
  exact List.forall_mem_append.mpr ⟨lw_r1, List.forall_mem_append.mpr ⟨lw_r2, List.forall_mem_append.mpr ⟨lw_r3, lw_r4⟩⟩⟩
end
section
def R_Net : String := "RoamingNet"
def R_Msg : String := "RoamingNet$Message"
def R_Wire : String := "RoamingNet$Wire"
def R_Mob : String := "RoamingNet$Mobile"
def R_Home : String := "RoamingNet$HomeAgent"
def R_Fa : String := "RoamingNet$ForeignAgent"
def R_Corr : String := "RoamingNet$Correspondent"
def R_Mod : String := "RoamingNetModel"
def R_Law : String := "RoamingNetLaw"
def F_Net : u_T := fun k => match k with
  | 0 => ("RoamingNet", "wire", "LRoamingNet$Wire;", true)
  | 1 => ("RoamingNet", "arrived", "LRoamingNet$Message;", true)
  | 2 => ("RoamingNet", "mobiles", "[LRoamingNet$Mobile;", true)
  | 3 => ("RoamingNet", "home", "LRoamingNet$HomeAgent;", true)
  | 4 => ("RoamingNet", "foreign", "[LRoamingNet$ForeignAgent;", true)
  | _ => ("RoamingNet", "correspondent", "LRoamingNet$Correspondent;", true)
def t_Net : Nat → FieldType := fun k => match k with
  | 0 => (.object "RoamingNet$Wire")
  | 1 => (.object "RoamingNet$Message")
  | 2 => (.array (.object "RoamingNet$Mobile"))
  | 3 => (.object "RoamingNet$HomeAgent")
  | 4 => (.array (.object "RoamingNet$ForeignAgent"))
  | _ => (.object "RoamingNet$Correspondent")
theorem n_Net : ∀ a, a < 6 → ∀ b, b < 6 → a ≠ b → (F_Net a).2.1 ≠ (F_Net b).2.1 := by decide +kernel
theorem t_Net_ok : ∀ k, k < 6 → parseFieldDescriptor (F_Net k).2.2.1 = some (t_Net k) := by decide +kernel
def F_Msg : u_T := fun k => match k with
  | 0 => ("RoamingNet$Message", "kind", "I", false)
  | 1 => ("RoamingNet$Message", "target", "I", false)
  | 2 => ("RoamingNet$Message", "network", "I", false)
  | 3 => ("RoamingNet$Message", "mobile", "I", false)
  | 4 => ("RoamingNet$Message", "number", "I", false)
  | 5 => ("RoamingNet$Message", "careOf", "I", false)
  | 6 => ("RoamingNet$Message", "code", "I", false)
  | 7 => ("RoamingNet$Message", "lifetime", "I", false)
  | _ => ("RoamingNet$Message", "seal", "I", false)
def t_Msg : Nat → FieldType := fun k => match k with
  | 0 => .int
  | 1 => .int
  | 2 => .int
  | 3 => .int
  | 4 => .int
  | 5 => .int
  | 6 => .int
  | 7 => .int
  | _ => .int
theorem n_Msg : ∀ a, a < 9 → ∀ b, b < 9 → a ≠ b → (F_Msg a).2.1 ≠ (F_Msg b).2.1 := by decide +kernel
theorem t_Msg_ok : ∀ k, k < 9 → parseFieldDescriptor (F_Msg k).2.2.1 = some (t_Msg k) := by decide +kernel
def F_Wire : u_T := fun k => match k with
  | 0 => ("RoamingNet$Wire", "rows", "[LRoamingNet$Message;", true)
  | 1 => ("RoamingNet$Wire", "size", "I", false)
  | _ => ("RoamingNet$Wire", "clock", "I", false)
def t_Wire : Nat → FieldType := fun k => match k with
  | 0 => (.array (.object "RoamingNet$Message"))
  | 1 => .int
  | _ => .int
theorem n_Wire : ∀ a, a < 3 → ∀ b, b < 3 → a ≠ b → (F_Wire a).2.1 ≠ (F_Wire b).2.1 := by decide +kernel
theorem t_Wire_ok : ∀ k, k < 3 → parseFieldDescriptor (F_Wire k).2.2.1 = some (t_Wire k) := by decide +kernel
def F_Mob : u_T := fun k => match k with
  | 0 => ("RoamingNet$Mobile", "self", "I", true)
  | 1 => ("RoamingNet$Mobile", "life", "I", true)
  | 2 => ("RoamingNet$Mobile", "wire", "LRoamingNet$Wire;", true)
  | 3 => ("RoamingNet$Mobile", "secret", "I", false)
  | 4 => ("RoamingNet$Mobile", "network", "I", false)
  | 5 => ("RoamingNet$Mobile", "lastId", "I", false)
  | 6 => ("RoamingNet$Mobile", "agent", "I", false)
  | 7 => ("RoamingNet$Mobile", "agentUntil", "I", false)
  | 8 => ("RoamingNet$Mobile", "heard", "I", false)
  | 9 => ("RoamingNet$Mobile", "heardUntil", "I", false)
  | 10 => ("RoamingNet$Mobile", "openId", "I", false)
  | 11 => ("RoamingNet$Mobile", "openAgent", "I", false)
  | 12 => ("RoamingNet$Mobile", "openSince", "I", false)
  | _ => ("RoamingNet$Mobile", "received", "I", false)
def t_Mob : Nat → FieldType := fun k => match k with
  | 0 => .int
  | 1 => .int
  | 2 => (.object "RoamingNet$Wire")
  | 3 => .int
  | 4 => .int
  | 5 => .int
  | 6 => .int
  | 7 => .int
  | 8 => .int
  | 9 => .int
  | 10 => .int
  | 11 => .int
  | 12 => .int
  | _ => .int
theorem n_Mob : ∀ a, a < 14 → ∀ b, b < 14 → a ≠ b → (F_Mob a).2.1 ≠ (F_Mob b).2.1 := by decide +kernel
theorem t_Mob_ok : ∀ k, k < 14 → parseFieldDescriptor (F_Mob k).2.2.1 = some (t_Mob k) := by decide +kernel
def F_Home : u_T := fun k => match k with
  | 0 => ("RoamingNet$HomeAgent", "limit", "I", true)
  | 1 => ("RoamingNet$HomeAgent", "wire", "LRoamingNet$Wire;", true)
  | 2 => ("RoamingNet$HomeAgent", "secrets", "[I", true)
  | 3 => ("RoamingNet$HomeAgent", "lastAccepted", "[I", true)
  | 4 => ("RoamingNet$HomeAgent", "careOf", "[I", true)
  | _ => ("RoamingNet$HomeAgent", "boundUntil", "[I", true)
def t_Home : Nat → FieldType := fun k => match k with
  | 0 => .int
  | 1 => (.object "RoamingNet$Wire")
  | 2 => (.array .int)
  | 3 => (.array .int)
  | 4 => (.array .int)
  | _ => (.array .int)
theorem n_Home : ∀ a, a < 6 → ∀ b, b < 6 → a ≠ b → (F_Home a).2.1 ≠ (F_Home b).2.1 := by decide +kernel
theorem t_Home_ok : ∀ k, k < 6 → parseFieldDescriptor (F_Home k).2.2.1 = some (t_Home k) := by decide +kernel
def F_Fa : u_T := fun k => match k with
  | 0 => ("RoamingNet$ForeignAgent", "self", "I", true)
  | 1 => ("RoamingNet$ForeignAgent", "places", "I", true)
  | 2 => ("RoamingNet$ForeignAgent", "wire", "LRoamingNet$Wire;", true)
  | 3 => ("RoamingNet$ForeignAgent", "visitUntil", "[I", true)
  | 4 => ("RoamingNet$ForeignAgent", "entryId", "[I", true)
  | _ => ("RoamingNet$ForeignAgent", "entryUntil", "[I", true)
def t_Fa : Nat → FieldType := fun k => match k with
  | 0 => .int
  | 1 => .int
  | 2 => (.object "RoamingNet$Wire")
  | 3 => (.array .int)
  | 4 => (.array .int)
  | _ => (.array .int)
theorem n_Fa : ∀ a, a < 6 → ∀ b, b < 6 → a ≠ b → (F_Fa a).2.1 ≠ (F_Fa b).2.1 := by decide +kernel
theorem t_Fa_ok : ∀ k, k < 6 → parseFieldDescriptor (F_Fa k).2.2.1 = some (t_Fa k) := by decide +kernel
def F_Corr : u_T := fun k => match k with
  | 0 => ("RoamingNet$Correspondent", "wire", "LRoamingNet$Wire;", true)
  | 1 => ("RoamingNet$Correspondent", "said", "[I", true)
  | 2 => ("RoamingNet$Correspondent", "sent", "[I", true)
  | 3 => ("RoamingNet$Correspondent", "acked", "[I", true)
  | _ => ("RoamingNet$Correspondent", "last", "[I", true)
def t_Corr : Nat → FieldType := fun k => match k with
  | 0 => (.object "RoamingNet$Wire")
  | 1 => (.array .int)
  | 2 => (.array .int)
  | 3 => (.array .int)
  | _ => (.array .int)
theorem n_Corr : ∀ a, a < 5 → ∀ b, b < 5 → a ≠ b → (F_Corr a).2.1 ≠ (F_Corr b).2.1 := by decide +kernel
theorem t_Corr_ok : ∀ k, k < 5 → parseFieldDescriptor (F_Corr k).2.2.1 = some (t_Corr k) := by decide +kernel
def F_Mod : u_T := fun k => match k with
  | 0 => ("RoamingNetModel", "life", "I", true)
  | 1 => ("RoamingNetModel", "limit", "I", true)
  | 2 => ("RoamingNetModel", "places", "I", true)
  | 3 => ("RoamingNetModel", "clock", "I", false)
  | 4 => ("RoamingNetModel", "many", "I", false)
  | 5 => ("RoamingNetModel", "rows", "[I", true)
  | 6 => ("RoamingNetModel", "row", "[I", true)
  | 7 => ("RoamingNetModel", "place", "[I", true)
  | 8 => ("RoamingNetModel", "secret", "[I", true)
  | 9 => ("RoamingNetModel", "lastId", "[I", true)
  | 10 => ("RoamingNetModel", "with", "[I", true)
  | 11 => ("RoamingNetModel", "until", "[I", true)
  | 12 => ("RoamingNetModel", "heard", "[I", true)
  | 13 => ("RoamingNetModel", "heardUntil", "[I", true)
  | 14 => ("RoamingNetModel", "openId", "[I", true)
  | 15 => ("RoamingNetModel", "openWith", "[I", true)
  | 16 => ("RoamingNetModel", "openSince", "[I", true)
  | 17 => ("RoamingNetModel", "received", "[I", true)
  | 18 => ("RoamingNetModel", "homeSecret", "[I", true)
  | 19 => ("RoamingNetModel", "accepted", "[I", true)
  | 20 => ("RoamingNetModel", "careOf", "[I", true)
  | 21 => ("RoamingNetModel", "boundUntil", "[I", true)
  | 22 => ("RoamingNetModel", "visitUntil", "[I", true)
  | 23 => ("RoamingNetModel", "entryId", "[I", true)
  | 24 => ("RoamingNetModel", "entryUntil", "[I", true)
  | 25 => ("RoamingNetModel", "said", "[I", true)
  | 26 => ("RoamingNetModel", "sent", "[I", true)
  | 27 => ("RoamingNetModel", "acked", "[I", true)
  | _ => ("RoamingNetModel", "last", "[I", true)
def t_Mod : Nat → FieldType := fun k => match k with
  | 0 => .int
  | 1 => .int
  | 2 => .int
  | 3 => .int
  | 4 => .int
  | 5 => (.array .int)
  | 6 => (.array .int)
  | 7 => (.array .int)
  | 8 => (.array .int)
  | 9 => (.array .int)
  | 10 => (.array .int)
  | 11 => (.array .int)
  | 12 => (.array .int)
  | 13 => (.array .int)
  | 14 => (.array .int)
  | 15 => (.array .int)
  | 16 => (.array .int)
  | 17 => (.array .int)
  | 18 => (.array .int)
  | 19 => (.array .int)
  | 20 => (.array .int)
  | 21 => (.array .int)
  | 22 => (.array .int)
  | 23 => (.array .int)
  | 24 => (.array .int)
  | 25 => (.array .int)
  | 26 => (.array .int)
  | 27 => (.array .int)
  | _ => (.array .int)
theorem n_Mod : ∀ a, a < 29 → ∀ b, b < 29 → a ≠ b → (F_Mod a).2.1 ≠ (F_Mod b).2.1 := by decide +kernel
theorem t_Mod_ok : ∀ k, k < 29 → parseFieldDescriptor (F_Mod k).2.2.1 = some (t_Mod k) := by decide +kernel
abbrev b_Net_init : ByteArray := prog_1_method_1_code
def y_Net_init : MethodName := ⟨R_Net, "<init>", "(III)V"⟩
abbrev b_Net_key : ByteArray := prog_1_method_2_code
def y_Net_key : MethodName := ⟨R_Net, "key", "(III)Z"⟩
abbrev b_Net_move : ByteArray := prog_1_method_3_code
def y_Net_move : MethodName := ⟨R_Net, "move", "(II)Z"⟩
abbrev b_Net_tick : ByteArray := prog_1_method_4_code
def y_Net_tick : MethodName := ⟨R_Net, "tick", "(I)Z"⟩
abbrev b_Net_say : ByteArray := prog_1_method_5_code
def y_Net_say : MethodName := ⟨R_Net, "say", "(I)I"⟩
abbrev b_Net_deliver : ByteArray := prog_1_method_6_code
def y_Net_deliver : MethodName := ⟨R_Net, "deliver", "(I)Z"⟩
abbrev b_Net_drop : ByteArray := prog_1_method_7_code
def y_Net_drop : MethodName := ⟨R_Net, "drop", "(I)Z"⟩
abbrev b_Net_duplicate : ByteArray := prog_1_method_8_code
def y_Net_duplicate : MethodName := ⟨R_Net, "duplicate", "(I)Z"⟩
abbrev b_Net_inject : ByteArray := prog_1_method_9_code
def y_Net_inject : MethodName := ⟨R_Net, "inject", "(IIIIII)Z"⟩
abbrev b_Net_messages : ByteArray := prog_1_method_10_code
def y_Net_messages : MethodName := ⟨R_Net, "messages", "()I"⟩
abbrev b_Net_message : ByteArray := prog_1_method_11_code
def y_Net_message : MethodName := ⟨R_Net, "message", "(I)I"⟩
abbrev b_Net_place : ByteArray := prog_1_method_12_code
def y_Net_place : MethodName := ⟨R_Net, "place", "(I)I"⟩
abbrev b_Net_registered : ByteArray := prog_1_method_13_code
def y_Net_registered : MethodName := ⟨R_Net, "registered", "(I)I"⟩
abbrev b_Net_open : ByteArray := prog_1_method_14_code
def y_Net_open : MethodName := ⟨R_Net, "open", "(I)I"⟩
abbrev b_Net_binding : ByteArray := prog_1_method_15_code
def y_Net_binding : MethodName := ⟨R_Net, "binding", "(I)I"⟩
abbrev b_Net_visit : ByteArray := prog_1_method_16_code
def y_Net_visit : MethodName := ⟨R_Net, "visit", "(II)I"⟩
abbrev b_Net_count : ByteArray := prog_1_method_17_code
def y_Net_count : MethodName := ⟨R_Net, "count", "(II)I"⟩
abbrev b_Net_passOneTick : ByteArray := prog_1_method_18_code
def y_Net_passOneTick : MethodName := ⟨R_Net, "passOneTick", "()V"⟩
abbrev b_Net_advertise : ByteArray := prog_1_method_19_code
def y_Net_advertise : MethodName := ⟨R_Net, "advertise", "(I)V"⟩
abbrev b_Net_handOver : ByteArray := prog_1_method_20_code
def y_Net_handOver : MethodName := ⟨R_Net, "handOver", "(LRoamingNet$Message;)V"⟩
abbrev b_Net_isWithin : ByteArray := prog_1_method_21_code
def y_Net_isWithin : MethodName := ⟨R_Net, "isWithin", "(III)Z"⟩
abbrev b_Net_isMobile : ByteArray := prog_1_method_22_code
def y_Net_isMobile : MethodName := ⟨R_Net, "isMobile", "(I)Z"⟩
abbrev b_Net_isAgent : ByteArray := prog_1_method_23_code
def y_Net_isAgent : MethodName := ⟨R_Net, "isAgent", "(I)Z"⟩
abbrev b_Mod_init : ByteArray := prog_9_method_1_code
def y_Mod_init : MethodName := ⟨R_Mod, "<init>", "(III)V"⟩
abbrev b_Mod_isMobile : ByteArray := prog_9_method_2_code
def y_Mod_isMobile : MethodName := ⟨R_Mod, "isMobile", "(I)Z"⟩
abbrev b_Mod_send : ByteArray := prog_9_method_3_code
def y_Mod_send : MethodName := ⟨R_Mod, "send", "(IIIIIIIII)V"⟩
abbrev b_Mod_take : ByteArray := prog_9_method_4_code
def y_Mod_take : MethodName := ⟨R_Mod, "take", "(I)V"⟩
abbrev b_Mod_isMessage : ByteArray := prog_9_method_5_code
def y_Mod_isMessage : MethodName := ⟨R_Mod, "isMessage", "(I)Z"⟩
abbrev b_Mod_mixed : ByteArray := prog_9_method_6_code
def y_Mod_mixed : MethodName := ⟨R_Mod, "mixed", "(II)I"⟩
abbrev b_Mod_requestSeal : ByteArray := prog_9_method_7_code
def y_Mod_requestSeal : MethodName := ⟨R_Mod, "requestSeal", "(IIIII)I"⟩
abbrev b_Mod_replySeal : ByteArray := prog_9_method_8_code
def y_Mod_replySeal : MethodName := ⟨R_Mod, "replySeal", "(IIIIII)I"⟩
abbrev b_Mod_key : ByteArray := prog_9_method_9_code
def y_Mod_key : MethodName := ⟨R_Mod, "key", "(III)Z"⟩
abbrev b_Mod_move : ByteArray := prog_9_method_10_code
def y_Mod_move : MethodName := ⟨R_Mod, "move", "(II)Z"⟩
abbrev b_Mod_register : ByteArray := prog_9_method_11_code
def y_Mod_register : MethodName := ⟨R_Mod, "register", "(II)V"⟩
abbrev b_Mod_advert : ByteArray := prog_9_method_12_code
def y_Mod_advert : MethodName := ⟨R_Mod, "advert", "(II)V"⟩
abbrev b_Mod_replyAtMobile : ByteArray := prog_9_method_13_code
def y_Mod_replyAtMobile : MethodName := ⟨R_Mod, "replyAtMobile", "(I)V"⟩
abbrev b_Mod_dataAtMobile : ByteArray := prog_9_method_14_code
def y_Mod_dataAtMobile : MethodName := ⟨R_Mod, "dataAtMobile", "(I)V"⟩
abbrev b_Mod_requestAtHome : ByteArray := prog_9_method_15_code
def y_Mod_requestAtHome : MethodName := ⟨R_Mod, "requestAtHome", "(I)V"⟩
abbrev b_Mod_dataAtHome : ByteArray := prog_9_method_16_code
def y_Mod_dataAtHome : MethodName := ⟨R_Mod, "dataAtHome", "(I)V"⟩
abbrev b_Mod_takesPlace : ByteArray := prog_9_method_17_code
def y_Mod_takesPlace : MethodName := ⟨R_Mod, "takesPlace", "(II)Z"⟩
abbrev b_Mod_requestAtForeign : ByteArray := prog_9_method_18_code
def y_Mod_requestAtForeign : MethodName := ⟨R_Mod, "requestAtForeign", "(II)V"⟩
abbrev b_Mod_replyAtForeign : ByteArray := prog_9_method_19_code
def y_Mod_replyAtForeign : MethodName := ⟨R_Mod, "replyAtForeign", "(II)V"⟩
abbrev b_Mod_pump : ByteArray := prog_9_method_20_code
def y_Mod_pump : MethodName := ⟨R_Mod, "pump", "(I)V"⟩
abbrev b_Mod_say : ByteArray := prog_9_method_21_code
def y_Mod_say : MethodName := ⟨R_Mod, "say", "(I)I"⟩
abbrev b_Mod_ack : ByteArray := prog_9_method_22_code
def y_Mod_ack : MethodName := ⟨R_Mod, "ack", "(I)V"⟩
abbrev b_Mod_deliver : ByteArray := prog_9_method_23_code
def y_Mod_deliver : MethodName := ⟨R_Mod, "deliver", "(I)Z"⟩
abbrev b_Mod_drop : ByteArray := prog_9_method_24_code
def y_Mod_drop : MethodName := ⟨R_Mod, "drop", "(I)Z"⟩
abbrev b_Mod_duplicate : ByteArray := prog_9_method_25_code
def y_Mod_duplicate : MethodName := ⟨R_Mod, "duplicate", "(I)Z"⟩
abbrev b_Mod_inject : ByteArray := prog_9_method_26_code
def y_Mod_inject : MethodName := ⟨R_Mod, "inject", "(IIIIII)Z"⟩
abbrev b_Mod_tickMobile : ByteArray := prog_9_method_27_code
def y_Mod_tickMobile : MethodName := ⟨R_Mod, "tickMobile", "(I)V"⟩
abbrev b_Mod_oneTick : ByteArray := prog_9_method_28_code
def y_Mod_oneTick : MethodName := ⟨R_Mod, "oneTick", "()V"⟩
abbrev b_Mod_tick : ByteArray := prog_9_method_29_code
def y_Mod_tick : MethodName := ⟨R_Mod, "tick", "(I)Z"⟩
abbrev b_Mod_messages : ByteArray := prog_9_method_30_code
def y_Mod_messages : MethodName := ⟨R_Mod, "messages", "()I"⟩
abbrev b_Mod_message : ByteArray := prog_9_method_31_code
def y_Mod_message : MethodName := ⟨R_Mod, "message", "(I)I"⟩
abbrev b_Mod_place : ByteArray := prog_9_method_32_code
def y_Mod_place : MethodName := ⟨R_Mod, "place", "(I)I"⟩
abbrev b_Mod_registered : ByteArray := prog_9_method_33_code
def y_Mod_registered : MethodName := ⟨R_Mod, "registered", "(I)I"⟩
abbrev b_Mod_open : ByteArray := prog_9_method_34_code
def y_Mod_open : MethodName := ⟨R_Mod, "open", "(I)I"⟩
abbrev b_Mod_binding : ByteArray := prog_9_method_35_code
def y_Mod_binding : MethodName := ⟨R_Mod, "binding", "(I)I"⟩
abbrev b_Mod_visit : ByteArray := prog_9_method_36_code
def y_Mod_visit : MethodName := ⟨R_Mod, "visit", "(II)I"⟩
abbrev b_Mod_count : ByteArray := prog_9_method_37_code
def y_Mod_count : MethodName := ⟨R_Mod, "count", "(II)I"⟩
abbrev b_Corr_init : ByteArray := prog_2_method_1_code
def y_Corr_init : MethodName := ⟨R_Corr, "<init>", "(LRoamingNet$Wire;)V"⟩
abbrev b_Corr_pump : ByteArray := prog_2_method_2_code
def y_Corr_pump : MethodName := ⟨R_Corr, "pump", "(I)V"⟩
abbrev b_Corr_receive : ByteArray := prog_2_method_3_code
def y_Corr_receive : MethodName := ⟨R_Corr, "receive", "(LRoamingNet$Message;)V"⟩
abbrev b_Corr_resendIfDue : ByteArray := prog_2_method_4_code
def y_Corr_resendIfDue : MethodName := ⟨R_Corr, "resendIfDue", "(I)V"⟩
abbrev b_Fa_init : ByteArray := prog_3_method_1_code
def y_Fa_init : MethodName := ⟨R_Fa, "<init>", "(IILRoamingNet$Wire;)V"⟩
abbrev b_Fa_isVisited : ByteArray := prog_3_method_2_code
def y_Fa_isVisited : MethodName := ⟨R_Fa, "isVisited", "(I)Z"⟩
abbrev b_Fa_hasEntry : ByteArray := prog_3_method_3_code
def y_Fa_hasEntry : MethodName := ⟨R_Fa, "hasEntry", "(I)Z"⟩
abbrev b_Fa_takesPlace : ByteArray := prog_3_method_4_code
def y_Fa_takesPlace : MethodName := ⟨R_Fa, "takesPlace", "(I)Z"⟩
abbrev b_Fa_isCrowded : ByteArray := prog_3_method_5_code
def y_Fa_isCrowded : MethodName := ⟨R_Fa, "isCrowded", "()Z"⟩
abbrev b_Fa_receive : ByteArray := prog_3_method_6_code
def y_Fa_receive : MethodName := ⟨R_Fa, "receive", "(LRoamingNet$Message;)V"⟩
abbrev b_Fa_takeRequest : ByteArray := prog_3_method_7_code
def y_Fa_takeRequest : MethodName := ⟨R_Fa, "takeRequest", "(LRoamingNet$Message;)V"⟩
abbrev b_Fa_takeReply : ByteArray := prog_3_method_8_code
def y_Fa_takeReply : MethodName := ⟨R_Fa, "takeReply", "(LRoamingNet$Message;)V"⟩
abbrev b_Fa_takeTunnel : ByteArray := prog_3_method_9_code
def y_Fa_takeTunnel : MethodName := ⟨R_Fa, "takeTunnel", "(II)V"⟩
abbrev b_Home_init : ByteArray := prog_4_method_1_code
def y_Home_init : MethodName := ⟨R_Home, "<init>", "(ILRoamingNet$Wire;)V"⟩
abbrev b_Home_isBound : ByteArray := prog_4_method_2_code
def y_Home_isBound : MethodName := ⟨R_Home, "isBound", "(I)Z"⟩
abbrev b_Home_receive : ByteArray := prog_4_method_3_code
def y_Home_receive : MethodName := ⟨R_Home, "receive", "(LRoamingNet$Message;)V"⟩
abbrev b_Home_takeRequest : ByteArray := prog_4_method_4_code
def y_Home_takeRequest : MethodName := ⟨R_Home, "takeRequest", "(LRoamingNet$Message;)V"⟩
abbrev b_Home_judge : ByteArray := prog_4_method_5_code
def y_Home_judge : MethodName := ⟨R_Home, "judge", "(LRoamingNet$Message;)I"⟩
abbrev b_Home_takeData : ByteArray := prog_4_method_6_code
def y_Home_takeData : MethodName := ⟨R_Home, "takeData", "(II)V"⟩
abbrev b_Msg_init : ByteArray := prog_5_method_1_code
def y_Msg_init : MethodName := ⟨R_Msg, "<init>", "()V"⟩
abbrev b_Msg_begin : ByteArray := prog_5_method_2_code
def y_Msg_begin : MethodName := ⟨R_Msg, "begin", "(IIII)V"⟩
abbrev b_Msg_copyFrom : ByteArray := prog_5_method_3_code
def y_Msg_copyFrom : MethodName := ⟨R_Msg, "copyFrom", "(LRoamingNet$Message;)V"⟩
abbrev b_Msg_summary : ByteArray := prog_5_method_4_code
def y_Msg_summary : MethodName := ⟨R_Msg, "summary", "()I"⟩
abbrev b_Msg_requestSeal : ByteArray := prog_5_method_5_code
def y_Msg_requestSeal : MethodName := ⟨R_Msg, "requestSeal", "(I)I"⟩
abbrev b_Msg_replySeal : ByteArray := prog_5_method_6_code
def y_Msg_replySeal : MethodName := ⟨R_Msg, "replySeal", "(I)I"⟩
abbrev b_Msg_stir : ByteArray := prog_5_method_7_code
def y_Msg_stir : MethodName := ⟨R_Msg, "stir", "(II)I"⟩
abbrev b_Mob_init : ByteArray := prog_6_method_1_code
def y_Mob_init : MethodName := ⟨R_Mob, "<init>", "(IILRoamingNet$Wire;)V"⟩
abbrev b_Mob_receive : ByteArray := prog_6_method_2_code
def y_Mob_receive : MethodName := ⟨R_Mob, "receive", "(LRoamingNet$Message;)V"⟩
abbrev b_Mob_takeAdvert : ByteArray := prog_6_method_3_code
def y_Mob_takeAdvert : MethodName := ⟨R_Mob, "takeAdvert", "(I)V"⟩
abbrev b_Mob_endsSoon : ByteArray := prog_6_method_4_code
def y_Mob_endsSoon : MethodName := ⟨R_Mob, "endsSoon", "()Z"⟩
abbrev b_Mob_registerWith : ByteArray := prog_6_method_5_code
def y_Mob_registerWith : MethodName := ⟨R_Mob, "registerWith", "(I)V"⟩
abbrev b_Mob_takeReply : ByteArray := prog_6_method_6_code
def y_Mob_takeReply : MethodName := ⟨R_Mob, "takeReply", "(LRoamingNet$Message;)V"⟩
abbrev b_Mob_takeData : ByteArray := prog_6_method_7_code
def y_Mob_takeData : MethodName := ⟨R_Mob, "takeData", "(I)V"⟩
abbrev b_Mob_notice : ByteArray := prog_6_method_8_code
def y_Mob_notice : MethodName := ⟨R_Mob, "notice", "()V"⟩
abbrev b_Wire_init : ByteArray := prog_7_method_1_code
def y_Wire_init : MethodName := ⟨R_Wire, "<init>", "()V"⟩
abbrev b_Wire_holds : ByteArray := prog_7_method_2_code
def y_Wire_holds : MethodName := ⟨R_Wire, "holds", "(I)Z"⟩
abbrev b_Wire_isFull : ByteArray := prog_7_method_3_code
def y_Wire_isFull : MethodName := ⟨R_Wire, "isFull", "()Z"⟩
abbrev b_Wire_nextRow : ByteArray := prog_7_method_4_code
def y_Wire_nextRow : MethodName := ⟨R_Wire, "nextRow", "()LRoamingNet$Message;"⟩
abbrev b_Wire_remove : ByteArray := prog_7_method_5_code
def y_Wire_remove : MethodName := ⟨R_Wire, "remove", "(I)V"⟩
abbrev b_Wire_sendTo : ByteArray := prog_7_method_6_code
def y_Wire_sendTo : MethodName := ⟨R_Wire, "sendTo", "(IIII)LRoamingNet$Message;"⟩
abbrev b_Wire_sendInNetwork : ByteArray := prog_7_method_7_code
def y_Wire_sendInNetwork : MethodName := ⟨R_Wire, "sendInNetwork", "(IIII)LRoamingNet$Message;"⟩
abbrev b_Wire_sendOn : ByteArray := prog_7_method_8_code
def y_Wire_sendOn : MethodName := ⟨R_Wire, "sendOn", "(LRoamingNet$Message;II)V"⟩
abbrev b_Law_cell : ByteArray := method_2_code
def y_Law_cell : MethodName := ⟨R_Law, "cell", "([II)I"⟩
abbrev rx_cl : List vw_C := [(R_Net, F_Net, 6), (R_Msg, F_Msg, 9), (R_Wire, F_Wire, 3), (R_Mob, F_Mob, 14), (R_Home, F_Home, 6), (R_Fa, F_Fa, 6), (R_Corr, F_Corr, 5), (R_Mod, F_Mod, 29)]
end
section
/-! the flat memory: a cell a number, its slots Int32s; worlds by an index function -/
abbrev rMem : Type := Nat → Nat → Int32
def rx_wr (σ : rMem) (i k : Nat) (v : Int32) : rMem := fun a => if a = i then upd (σ a) k v else σ a
/-- what a place knows: the classes' numbers, the cells' addresses, the array classes, which addresses are its own, the cells' shapes, how many there are -/
abbrev rGT : Type := va_G × (Nat → Nat) × (Nat → ClassId) × (Nat → Prop) × (Nat → (Nat → Int32) → va_E) × Nat
abbrev rg_D (G : rGT) : va_G := G.1
abbrev rg_A (G : rGT) : Nat → Nat := G.2.1
abbrev rg_C (G : rGT) : Nat → ClassId := G.2.2.1
abbrev rg_O (G : rGT) : Nat → Prop := G.2.2.2.1
abbrev rg_E (G : rGT) : Nat → (Nat → Int32) → va_E := G.2.2.2.2.1
abbrev rg_N (G : rGT) : Nat := G.2.2.2.2.2
def rx_wd (ad : Nat → Nat) (E : Nat → (Nat → Int32) → va_E) (n : Nat) (σ : rMem) : va_W := (List.range n).map (fun i => (ad i, E i (σ i)))
theorem rx_at {ad : Nat → Nat} {E : Nat → (Nat → Int32) → va_E} {n : Nat} {σ : rMem} {i : Nat} (hi : i < n) : (rx_wd ad E n σ)[i]? = some (ad i, E i (σ i)) := by
  simp [rx_wd, hi]
theorem rx_range {n j a : Nat} (h : (List.range n)[j]? = some a) : a = j ∧ j < n := by
  have h1 := (List.getElem?_eq_some_iff.mp h)
  obtain ⟨h2, h3⟩ := h1
  simp at h3 h2
  exact ⟨h3.symm, h2⟩
theorem rx_set {ad : Nat → Nat} {E : Nat → (Nat → Int32) → va_E} {n : Nat} {σ : rMem} {i k : Nat} {v : Int32} {x : va_E} (hi : i < n) (he : x = E i (upd (σ i) k v)) : (rx_wd ad E n σ).set i (ad i, x) = rx_wd ad E n (rx_wr σ i k v) := by
  apply List.ext_getElem?
  intro j
  by_cases hj : j = i
  · subst hj
    rw [List.getElem?_set_self (by simp [rx_wd, hi]), rx_at hi, he]
    simp [rx_wr]
  · rw [List.getElem?_set_ne (Ne.symm hj)]
    simp only [rx_wd, List.getElem?_map]
    cases h : (List.range n)[j]? with
    | none => rfl
    | some a =>
      obtain ⟨h1, -⟩ := rx_range h
      subst h1
      simp [rx_wr, hj]
/-- addresses apart, and the place's own -/
def rx_D (G : rGT) : Prop := (∀ i j : Nat, i < rg_N G → j < rg_N G → rg_A G i = rg_A G j → i = j) ∧ ∀ i : Nat, i < rg_N G → rg_O G (rg_A G i)
def rx_w (G : rGT) (σ : rMem) : va_W := rx_wd (rg_A G) (rg_E G) (rg_N G) σ
theorem rx_D.va {G : rGT} (h : rx_D G) (σ : rMem) : va_D (rg_O G) (rx_w G σ) := by
  have key : ∀ (k : Nat) (q : Nat × va_E), (rx_w G σ)[k]? = some q → k < rg_N G ∧ q.1 = rg_A G k := by
    intro k q hk
    simp only [rx_w, rx_wd, List.getElem?_map] at hk
    cases hr : (List.range (rg_N G))[k]? with
    | none => rw [hr] at hk; cases hk
    | some a =>
      obtain ⟨h1, h2⟩ := rx_range hr
      rw [hr] at hk
      cases hk
      subst h1
      exact ⟨h2, rfl⟩
  refine ⟨fun i j x y hi hj hxy => ?_, fun k q hk => ?_⟩
  · obtain ⟨a1, a2⟩ := key i x hi
    obtain ⟨b1, b2⟩ := key j y hj
    exact h.1 i j a1 b1 (by rw [← a2, ← b2]; exact hxy)
  · obtain ⟨a1, a2⟩ := key k q hk
    rw [a2]
    exact h.2 k a1
/-! locals: the first that names a place holds -/
def rx_lk : List (Nat × Value) → Nat → Option Value
  | [], _ => none
  | q :: t, i => bif Nat.beq q.1 i then some q.2 else rx_lk t i
theorem rx_lk_mem : ∀ {lo : List (Nat × Value)} {i : Nat} {v : Value}, rx_lk lo i = some v → (i, v) ∈ lo
  | [], _, _, h => by cases h
  | q :: t, i, v, h => by
    unfold rx_lk at h
    cases hb : Nat.beq q.1 i with
    | true =>
      rw [hb] at h
      have h1 : q.1 = i := Nat.eq_of_beq_eq_true hb
      have h2 : q.2 = v := Option.some.inj h
      rw [← h1, ← h2]
      exact List.mem_cons_self
    | false =>
      rw [hb] at h
      exact List.mem_cons_of_mem _ (rx_lk_mem h)
def rx_has (ls : Array Slot) (nL : Nat) (lo : List (Nat × Value)) : Prop := ∃ l : List (Nat × Value), lv_has ls nL l ∧ ∀ (j : Nat) (w : Value), rx_lk lo j = some w → (j, w) ∈ l ∧ w.category = 1
theorem rx_has.val {ls : Array Slot} {nL : Nat} {lo : List (Nat × Value)} (h : rx_has ls nL lo) {i : Nat} {v : Value} (hi : rx_lk lo i = some v) : ls[i]? = some (.val v) := by
  obtain ⟨l, h1, h2⟩ := h
  exact h1.2.2 (i, v) (h2 i v hi).1
theorem rx_has.size {ls : Array Slot} {nL : Nat} {lo : List (Nat × Value)} (h : rx_has ls nL lo) : ls.size = nL := by
  obtain ⟨l, h1, h2⟩ := h
  exact h1.1
theorem rx_has.put {ls' : Array Slot} {nL i : Nat} {l lo : List (Nat × Value)} {v : Value} (hc : v.category = 1) (h2 : ∀ (j : Nat) (w : Value), rx_lk lo j = some w → (j, w) ∈ l ∧ w.category = 1)
    (h : lv_has ls' nL ((i, v) :: l.filter (fun q => !(q.1 == i) && !(q.1 + 1 == i && q.2.category == 2)))) : rx_has ls' nL ((i, v) :: lo) := by
  refine ⟨_, h, fun j w hj => ?_⟩
  unfold rx_lk at hj
  cases hb : Nat.beq i j with
  | true =>
    rw [hb] at hj
    have e1 : i = j := Nat.eq_of_beq_eq_true hb
    have e2 : v = w := Option.some.inj hj
    subst e1 e2
    exact ⟨List.mem_cons_self, hc⟩
  | false =>
    rw [hb] at hj
    obtain ⟨h3, h4⟩ := h2 j w hj
    have hne : ¬ j = i := fun q => by
      rw [q, Nat.beq_refl] at hb
      cases hb
    refine ⟨List.mem_cons_of_mem _ (List.mem_filter.mpr ⟨h3, ?_⟩), h4⟩
    simp [hne, h4]
theorem rx_has.weak {ls : Array Slot} {nL : Nat} {lo lo' : List (Nat × Value)} (h : rx_has ls nL lo) (hw : ∀ q ∈ lo', rx_lk lo q.1 = some q.2) : rx_has ls nL lo' := by
  obtain ⟨l, h1, h2⟩ := h
  exact ⟨l, h1, fun j w hj => h2 j w (hw (j, w) (rx_lk_mem hj))⟩
theorem rx_has.entry (vs : List Value) {n : Nat} (h : (lg_sl vs).length ≤ n) (hv : ∀ (j : Nat) (w : Value), rx_lk (lv_args 0 vs) j = some w → w.category = 1) : rx_has ((lg_sl vs ++ List.replicate (n - (lg_sl vs).length) Slot.unset).toArray) n (lv_args 0 vs) :=
  ⟨lv_args 0 vs, lv_entry vs h, fun j w hj => ⟨rx_lk_mem hj, hv j w hj⟩⟩
theorem rx_addI {x y : Int32} (h1 : -2147483648 ≤ x.toInt + y.toInt) (h2 : x.toInt + y.toInt < 2147483648) : (x + y).toInt = x.toInt + y.toInt := by
  rw [Int32.toInt_add]
  exact Int.bmod_eq_of_le_mul_two (by omega) (by omega)
theorem rx_subI {x y : Int32} (h1 : -2147483648 ≤ x.toInt - y.toInt) (h2 : x.toInt - y.toInt < 2147483648) : (x - y).toInt = x.toInt - y.toInt := by
  rw [Int32.toInt_sub]
  exact Int.bmod_eq_of_le_mul_two (by omega) (by omega)
theorem rx_lo (x : Int32) : -2147483648 ≤ x.toInt := by
  have := Int32.le_toInt x
  omega
theorem rx_hi (x : Int32) : x.toInt < 2147483648 := by
  have := Int32.toInt_lt x
  omega
theorem rx_ltI {x y : Int32} : x < y ↔ x.toInt < y.toInt := Int32.lt_iff_toInt_lt
theorem rx_leI {x y : Int32} : x ≤ y ↔ x.toInt ≤ y.toInt := Int32.le_iff_toInt_le
theorem rx_eqI {x y : Int32} : x = y ↔ x.toInt = y.toInt := Int32.toInt_inj.symm
theorem rx_vinI {x : Int32} {n : Nat} (h1 : 0 ≤ x.toInt) (h2 : x.toInt < n) : vp_in x n := vp_in_iff.mpr ⟨h1, h2⟩
theorem rx_I0 : (0 : Int32).toInt = 0 := rfl
theorem rx_I1 : (1 : Int32).toInt = 1 := rfl
theorem rx_I40 : (40 : Int32).toInt = 40 := rfl
def rx_iM (m : Int32) : Prop := 0 ≤ m.toInt ∧ m.toInt ≤ 1
/-- a memory is sound: so much as keeps the machine from throwing -/
def rx_SI (σ : rMem) : Prop := (0 ≤ (σ 1 1).toInt ∧ (σ 1 1).toInt ≤ 40) ∧ (∀ k, k < 41 → 1 ≤ (σ 2 k).toInt ∧ (σ 2 k).toInt ≤ 41) ∧ (0 ≤ (σ 71 4).toInt ∧ (σ 71 4).toInt ≤ 40) ∧ (∀ k, k < 2 → (σ 67 k).toInt ≤ 200 ∧ (σ 68 k).toInt ≤ 200 ∧ (σ 92 k).toInt ≤ 200 ∧ (σ 93 k).toInt ≤ 200)
theorem rx_wr_ne {σ : rMem} {i k a : Nat} {v : Int32} (h : a ≠ i) : rx_wr σ i k v a = σ a := by simp [rx_wr, h]
theorem rx_wr_eq {σ : rMem} {i k : Nat} {v : Int32} : rx_wr σ i k v i k = v := by simp [rx_wr, upd]
theorem rx_wr_sl {σ : rMem} {i k a f : Nat} {v : Int32} (h : f ≠ k) : rx_wr σ i k v a f = σ a f := by
  by_cases ha : a = i
  · subst ha
    simp [rx_wr, upd, h]
  · simp [rx_wr, ha]
theorem rx_wr_at (σ : rMem) (i k a f : Nat) (v : Int32) : rx_wr σ i k v a f = if a = i ∧ f = k then v else σ a f := by
  by_cases ha : a = i
  · subst ha
    by_cases hf : f = k
    · subst hf; simp [rx_wr, upd]
    · simp [rx_wr, upd, hf]
  · simp [rx_wr, ha]
/-- a write of which soundness says nothing -/
theorem rx_SI_wr {σ : rMem} {i k : Nat} {v : Int32} (hi : (i ≠ 2 ∧ i ≠ 67 ∧ i ≠ 68 ∧ i ≠ 92 ∧ i ≠ 93) ∧ (i = 1 → k ≠ 1) ∧ (i = 71 → k ≠ 4)) (h : rx_SI σ) : rx_SI (rx_wr σ i k v) := by
  obtain ⟨h1, h2, h3, h4⟩ := h
  refine ⟨?_, fun k hk => ?_, ?_, fun k hk => ?_⟩
  · rw [rx_wr_at, if_neg (by omega)]; exact h1
  · rw [rx_wr_at, if_neg (by omega)]; exact h2 k hk
  · rw [rx_wr_at, if_neg (by omega)]; exact h3
  · rw [rx_wr_ne (a := 67) (by omega), rx_wr_ne (a := 68) (by omega), rx_wr_ne (a := 92) (by omega), rx_wr_ne (a := 93) (by omega)]; exact h4 k hk
theorem rx_SI_size {σ : rMem} {v : Int32} (hv : 0 ≤ v.toInt ∧ v.toInt ≤ 40) (h : rx_SI σ) : rx_SI (rx_wr σ 1 1 v) := by
  obtain ⟨h1, h2, h3, h4⟩ := h
  refine ⟨?_, fun k hk => ?_, ?_, fun k hk => ?_⟩
  · rw [rx_wr_eq]; exact hv
  · rw [rx_wr_ne (by omega)]; exact h2 k hk
  · rw [rx_wr_ne (by omega)]; exact h3
  · rw [rx_wr_ne (a := 67) (by omega), rx_wr_ne (a := 68) (by omega), rx_wr_ne (a := 92) (by omega), rx_wr_ne (a := 93) (by omega)]; exact h4 k hk
theorem rx_SI_many {σ : rMem} {v : Int32} (hv : 0 ≤ v.toInt ∧ v.toInt ≤ 40) (h : rx_SI σ) : rx_SI (rx_wr σ 71 4 v) := by
  obtain ⟨h1, h2, h3, h4⟩ := h
  refine ⟨?_, fun k hk => ?_, ?_, fun k hk => ?_⟩
  · rw [rx_wr_ne (by omega)]; exact h1
  · rw [rx_wr_ne (by omega)]; exact h2 k hk
  · rw [rx_wr_eq]; exact hv
  · rw [rx_wr_ne (a := 67) (by omega), rx_wr_ne (a := 68) (by omega), rx_wr_ne (a := 92) (by omega), rx_wr_ne (a := 93) (by omega)]; exact h4 k hk
theorem rx_SI_row {σ : rMem} {j : Nat} {v : Int32} (hv : 1 ≤ v.toInt ∧ v.toInt ≤ 41) (h : rx_SI σ) : rx_SI (rx_wr σ 2 j v) := by
  obtain ⟨h1, h2, h3, h4⟩ := h
  refine ⟨?_, fun k hk => ?_, ?_, fun k hk => ?_⟩
  · rw [rx_wr_ne (by omega)]; exact h1
  · rw [rx_wr_at]
    split
    · exact hv
    · exact h2 k hk
  · rw [rx_wr_ne (by omega)]; exact h3
  · rw [rx_wr_ne (a := 67) (by omega), rx_wr_ne (a := 68) (by omega), rx_wr_ne (a := 92) (by omega), rx_wr_ne (a := 93) (by omega)]; exact h4 k hk
theorem rx_SI_cnt {σ : rMem} {i j : Nat} {v : Int32} (hi : i = 67 ∨ i = 68 ∨ i = 92 ∨ i = 93) (hv : v.toInt ≤ 200) (h : rx_SI σ) : rx_SI (rx_wr σ i j v) := by
  obtain ⟨h1, h2, h3, h4⟩ := h
  refine ⟨?_, fun k hk => ?_, ?_, fun k hk => ?_⟩
  · rw [rx_wr_ne (by omega)]; exact h1
  · rw [rx_wr_ne (by omega)]; exact h2 k hk
  · rw [rx_wr_ne (by omega)]; exact h3
  · have h5 := h4 k hk
    have key : ∀ c, (σ c k).toInt ≤ 200 → (rx_wr σ i j v c k).toInt ≤ 200 := by
      intro c hc
      rw [rx_wr_at]
      split
      · exact hv
      · exact hc
    exact ⟨key 67 h5.1, key 68 h5.2.1, key 92 h5.2.2.1, key 93 h5.2.2.2⟩
theorem rx_in2 {x : Int32} (h : rx_iM x) : vp_in x 2 := vp_in_iff.mpr ⟨h.1, by have := h.2; omega⟩
theorem rx_cn {x : Int32} (h : 0 ≤ x.toInt) : (x.toNatClampNeg : Int) = x.toInt := Int.toNat_of_nonneg h
theorem rx_j2 {x : Int32} (h : rx_iM x) : x.toNatClampNeg < 2 := by
  have h1 := rx_cn h.1
  have h2 := h.2
  omega
theorem rx_rowq {σ : rMem} (h : rx_SI σ) {k : Nat} (hk : k < 41) : 3 ≤ 2 + (σ 2 k).toNatClampNeg ∧ 2 + (σ 2 k).toNatClampNeg < 45 := by
  have h1 := h.2.1 k hk
  have h2 := rx_cn (x := σ 2 k) (by omega)
  omega
def rx_tys (G : rGT) : List (ClassId × FieldType) := [(rg_C G 0, .int), (rg_C G 1, .object R_Msg), (rg_C G 2, .object R_Mob), (rg_C G 3, .object R_Fa)]
/-! the words of the tables, by their kinds -/
def rx_W : List Cond := lw_tbl.filter goodWord
theorem rx_in {w : Cond} (h : w ∈ lw_tbl) (hg : goodWord w = true) : w ∈ rx_W := List.mem_filter.mpr ⟨h, hg⟩
theorem rx_good : ∀ w ∈ rx_W, (w.onTables && w.keeps) = true ∨ ∃ ty, w = .arrayClass ty := fun w h => good_of_word (List.mem_filter.mp h).2
theorem rx_goodIn {x y : Cond} (hy : y ∈ rx_W) : GoodIn (x :: rx_W) (y :: rx_W) := by
  intro w hw
  rcases List.mem_cons.mp hw with rfl | hw
  · exact ⟨List.mem_cons_of_mem _ hy, rx_good _ hy⟩
  · exact ⟨List.mem_cons_of_mem _ hw, rx_good _ hw⟩
theorem rx_goodIn0 {y : Cond} (hy : y ∈ rx_W) : GoodIn rx_W (y :: rx_W) := by
  intro w hw
  rcases List.mem_cons.mp hw with rfl | hw
  · exact ⟨hy, rx_good _ hy⟩
  · exact ⟨hw, rx_good _ hw⟩
def rx_nest : Cond → Bool
  | .fieldLinkNest .. => true
  | .methodLinkNest .. => true
  | _ => false
theorem rx_nest_tab {w : Cond} (h : rx_nest w = true) : w.onTables = true := by
  cases w <;> first | rfl | (simp [rx_nest] at h; done)
theorem rx_nest_warm {w : Cond} (h : rx_nest w = true) {s U : State} (hW : s.WarmedH U.vm) (hZ : va_Nw w s) : va_Nw w U := by
  cases w <;> first | exact va_Nw.warmF hW hZ | exact va_Nw.warmM hW hZ | (simp [rx_nest] at h; done)
def rx_K (G : rGT) (U : State) : Prop := va_K (rg_D G) rx_cl (rx_tys G) U ∧ ∀ w ∈ lw_tbl, rx_nest w = true → va_Nw w U
theorem rx_K.warm {G : rGT} {s U : State} (hW : s.WarmedH U.vm) (h : rx_K G s) : rx_K G U := ⟨va_K.moved hW.alike h.1, fun w hw hn => rx_nest_warm hn hW (h.2 w hw hn)⟩
theorem rx_K.same {G : rGT} {s U : State} (hv : s.vm = U.vm) (h : rx_K G s) : rx_K G U := ⟨va_K.moved (by rw [hv]; exact Vm.Alike.refl U.vm) h.1, fun w hw hn => va_Nw.same (rx_nest_tab hn) hv (h.2 w hw hn)⟩
/-- the heap holds the memory, and the memory is sound -/
def rx_m (G : rGT) (σ : rMem) (H : Heap) : Prop := va_P (rg_D G) rx_cl (rx_w G σ) H ∧ rx_SI σ
/-- a contract's end: the answer, the memory behind it; nothing changed but the place's own cells -/
def rx_Q (G : rGT) (rv : Option Value) (σ : rMem) : Array Value → State → Outcome → State → Prop := fun _ st oc t => oc = .returned rv ∧ rx_m G σ t.heap ∧ va_F (rg_O G) st t
def rx_P (G : rGT) (av : List Value) (σ : rMem) : Array Value → State → Prop := va_Pc av (fun U => rx_m G σ U.heap ∧ rx_K G U)
/-- a method's contract over the flat memory -/
def rx_C (l : Launch) (G : rGT) (y : MethodName) (b : ByteArray) (nL : Nat) (ret : Option FieldType) (rm : Room) (av : List Value) (σ : rMem) (rv : Option Value) (σ' : rMem) : Prop :=
  Met l y (.code y b nL ret :: rx_W) rm (rx_P G av σ) (rx_Q G rv σ') 0 0 (rg_O G)
/-- a method that touches no cell -/
def rx_QS (v : Value) : Array Value → State → Outcome → State → Prop := fun _ st oc t => oc = .returned (some v) ∧ t.heap = st.heap
def rx_S (l : Launch) (y : MethodName) (b : ByteArray) (nL : Nat) (ret : Option FieldType) (rm : Room) (av : List Value) (v : Value) : Prop :=
  Met l y (.code y b nL ret :: rx_W) rm (fun a _ => a = av.toArray) (rx_QS v) 0 0 (fun _ => False)
def rx_rm (d : Nat) : Room := { frames := d, cells := 0, slots := 0, locals := 40 * d }
/-- what stands through a method's walk -/
def rx_Cx (p : Program) (s : State) (m : MethodId) (args : Array Value) (meth : Method) (c : Code) (own : String) (cc : ByteArray) (nL : Nat) (ret : Option FieldType) : Prop :=
  p.tables.exec = Jvm.exec ∧ c.code = cc ∧ c.maxLocals = nL ∧ s.vm.findClass own = some m.cls ∧ (∀ w ∈ rx_W, w.before args s = true) ∧ meth.locks = false ∧ meth.sig.returnType = ret
/-- the same, where the flat memory stands -/
def rx_Cw (p : Program) (s : State) (m : MethodId) (args : Array Value) (meth : Method) (c : Code) (own : String) (cc : ByteArray) (nL : Nat) (ret : Option FieldType) (G : rGT) : Prop :=
  rx_Cx p s m args meth c own cc nL ret ∧ rx_K G s ∧ rx_D G
/-- the machine at a place of the code, over the flat memory -/
def rx_X (p : Program) (l : Launch) (e : Env) (R : Room) (s : State) (m : MethodId) (args : Array Value) (below : List Frame) (meth : Method) (c : Code) (O : Nat → Prop) (H0 : Heap) (cells slots : Nat) (Q : State → Prop) (nL : Nat) (Φ : Heap → Prop) (pc : Nat) (lo : List (Nat × Value)) (st : List Value) : Prop :=
  ∀ (H : Heap) (locs : List Loc) (ls : Array Slot), Φ H → va_S O H0 H locs → rx_has ls nL lo → W p l e R s m args below meth c H locs cells slots Q (F0 m pc ls st)
theorem rx_blind {G : rGT} {av : List Value} {σ : rMem} : FrameBlind (rx_P G av σ) := fun a U g mk q => by
  obtain ⟨q0, qP, qK⟩ := q
  exact ⟨q0, qP, rx_K.same (s := U) (U := U.calling g mk a) (show U.vm = (U.calling g mk a).vm from rfl) qK⟩
theorem rx_pre {G : rGT} {av : List Value} {σ : rMem} {s : State} {H : Heap} (hP : rx_m G σ H) (hK : rx_K G s) : ∀ U : State, U.heap = H → s.WarmedH U.vm → rx_P G av σ av.toArray U := fun U hU hW => ⟨rfl, by rw [hU]; exact hP, hK.warm hW⟩
section RXA
variable {p : Program} {l : Launch} {e : Env} {R : Room} {s : State} {m : MethodId} {args : Array Value} {below : List Frame} {meth : Method} {c : Code} {G : rGT} {H0 : Heap} {cells slots : Nat} {Q : State → Prop} {nL : Nat} {σ σ' : rMem} {lo : List (Nat × Value)} {rest st : List Value} {own : String} {cc : ByteArray} {ret : Option FieldType}
/-- a contract out of a walk -/
theorem rx_of {y : MethodName} {rm : Room} {av : List Value} {rv : Option Value} (hy : plainName y.cls = true) (hD : rx_D G) (hlo : lv_args 0 av = lo) (hl : (lg_sl av).length ≤ nL) (hv : lo.all (fun q => q.2.category == 1) = true)
    (h : ∀ (p : Program) (e : Env) (s : State) (m : MethodId) (below : List Frame) (meth : Method) (c : Code), rx_Cw p s m av.toArray meth c y.cls cc nL ret G → rx_X p l e rm s m av.toArray below meth c (rg_O G) s.heap 0 0 (MQ below (rx_Q G rv σ') av.toArray s 0 0 (rg_O G)) nL (rx_m G σ) 0 lo []) : rx_C l G y cc nL ret rm av σ rv σ' := by
  refine Met.ofW (cc := cc) (maxL := nL) (ret := ret) hy rfl ?_
  intro p e s m args below meth c s₁ B hml hvv
  obtain ⟨rfl, hP, hK⟩ := hvv
  have hts := atoms_spec (ws := .code y cc nL ret :: rx_W) B.pre
  rw [lg_entry_eq]
  refine h p e s m below meth c ⟨⟨B.exec, B.bytes, hml, findClass_of_methodNamed B.named, fun w hw => hts w (List.mem_cons_of_mem _ hw), B.notSynchronized, B.returns⟩, hK, hD⟩ s.heap [] _ hP va_S.rf ?_
  subst hlo
  refine rx_has.entry av hl (fun j w hj => ?_)
  have h1 := List.all_eq_true.mp hv _ (rx_lk_mem hj)
  simpa using h1
/-- the same of a method that touches no cell: its walk holds over any heap -/
theorem rx_ofS {y : MethodName} {rm : Room} {av : List Value} {v : Value} (hy : plainName y.cls = true) (hlo : lv_args 0 av = lo) (hl : (lg_sl av).length ≤ nL) (hv : lo.all (fun q => q.2.category == 1) = true)
    (h : ∀ (p : Program) (e : Env) (s : State) (m : MethodId) (below : List Frame) (meth : Method) (c : Code), rx_Cx p s m av.toArray meth c y.cls cc nL ret → rx_X p l e rm s m av.toArray below meth c (fun _ => False) s.heap 0 0 (MQ below (rx_QS v) av.toArray s 0 0 (fun _ => False)) nL (fun H => H = s.heap) 0 lo []) : rx_S l y cc nL ret rm av v := by
  refine Met.ofW (cc := cc) (maxL := nL) (ret := ret) hy rfl ?_
  intro p e s m args below meth c s₁ B hml hvv
  subst hvv
  have hts := atoms_spec (ws := .code y cc nL ret :: rx_W) B.pre
  rw [lg_entry_eq]
  refine h p e s m below meth c ⟨B.exec, B.bytes, hml, findClass_of_methodNamed B.named, fun w hw => hts w (List.mem_cons_of_mem _ hw), B.notSynchronized, B.returns⟩ s.heap [] _ rfl va_S.rf ?_
  subst hlo
  refine rx_has.entry av hl (fun j w hj => ?_)
  have h1 := List.all_eq_true.mp hv _ (rx_lk_mem hj)
  simpa using h1
theorem rx_iretS {pc : Nat} {v : Int32} {w : Value} (C : rx_Cx p s m args meth c own cc nL (some .int)) (hdg : decode cc pc = .ok (.ireturn, 1)) (hv : .int v = w) : rx_X p l e R s m args below meth c (fun _ => False) s.heap cells slots (MQ below (rx_QS w) args s cells slots (fun _ => False)) nL (fun H => H = s.heap) pc lo [.int v] := by
  intro H locs ls hP hS hl
  subst hv
  exact W.iret C.1 C.2.1 C.2.2.2.2.2.2 (fun t ht hW => ⟨rfl, by rw [ht, hP]⟩) hS.2.2 hdg C.2.2.2.2.2.1
theorem rx_zretS {pc : Nat} {v : Int32} {w : Value} (C : rx_Cx p s m args meth c own cc nL (some .boolean)) (hdg : decode cc pc = .ok (.ireturn, 1)) (hn : v = 0 ∨ v = 1) (hv : .int v = w) : rx_X p l e R s m args below meth c (fun _ => False) s.heap cells slots (MQ below (rx_QS w) args s cells slots (fun _ => False)) nL (fun H => H = s.heap) pc lo [.int v] := by
  intro H locs ls hP hS hl
  subst hv
  exact W.zret C.1 C.2.1 C.2.2.2.2.2.2 (by rcases hn with rfl | rfl <;> rfl) (fun t ht hW => ⟨rfl, by rw [ht, hP]⟩) hS.2.2 hdg C.2.2.2.2.2.1
/-- behind a call -/
theorem rx_after {pc : Nat} {ls : Array Slot} {H : Heap} {locs : List Loc} {rv : Option Value} {a : Array Value} (hr : va_Run p l e R s m args below meth c H locs cells slots 0 0 (F0 m pc ls st) rest (rx_Q G rv σ' a) (rg_O G)) (hS : va_S (rg_O G) H0 H locs)
    (kk : ∀ (H1 : Heap) (locs1 : List Loc), rx_m G σ' H1 → va_S (rg_O G) H0 H1 locs1 → W p l e R s m args below meth c H1 locs1 cells slots Q (F0 m (pc + 3) ls (rv.toList ++ rest))) : W p l e R s m args below meth c H locs cells slots Q (F0 m pc ls st) := by
  intro T hT X
  obtain ⟨v, st₀, t, T', L, h0, X', hL, e1, e2, ⟨hv, hP, hz, hk⟩, st'⟩ := hr T hT X
  cases hv
  rw [h0] at hz hk
  obtain ⟨t2, a1, b1⟩ := kk T'.heap (locs ++ L) (by rw [e1]; exact hP) ⟨Nat.le_trans hS.1 (by rw [e1]; exact hz), fun q h1 h2 => by rw [e1, hk q (Nat.lt_of_lt_of_le h1 hS.1) h2]; exact hS.2.1 q h1 h2, fun q hq => by
      rcases List.mem_append.mp hq with h | h
      · exact hS.2.2 q h
      · exact hL q h⟩ T' rfl X'
  exact ⟨t2, st' t2 a1, b1⟩
theorem rx_afterS {pc : Nat} {ls : Array Slot} {H : Heap} {locs : List Loc} {v : Value} {a : Array Value} (hr : va_Run p l e R s m args below meth c H locs cells slots 0 0 (F0 m pc ls st) rest (rx_QS v a) (fun _ => False))
    (kk : W p l e R s m args below meth c H locs cells slots Q (F0 m (pc + 3) ls (v :: rest))) : W p l e R s m args below meth c H locs cells slots Q (F0 m pc ls st) := by
  intro T hT X
  obtain ⟨w, st₀, t, T', L, h0, X', hL, e1, e2, ⟨hv, hh⟩, st'⟩ := hr T hT X
  cases hv
  obtain ⟨t2, a1, b1⟩ := kk T' (by rw [e1, hh, h0]) (Stand.forget X' (fun q h => (hL q h).elim))
  exact ⟨t2, st' t2 a1, b1⟩
/-- the words for a call of an instance method of the own class, or of a nest mate -/
theorem rx_cwV {y : MethodName} {b : ByteArray} {nLy idx n : Nat} {rety : Option FieldType} {rm : Room} (C : rx_Cx p s m args meth c own cc nL ret) (hcode : Cond.code y b nLy rety ∈ rx_W) (hlink : Cond.methodLink own idx y ∈ rx_W) (hinst : Cond.instanceMethod y ∈ rx_W) (hsel : Cond.selects y.cls y y ∈ rx_W) (hini : Cond.initialized y.cls ∈ rx_W)
    (hd : y.cls ≠ "java/lang/invoke/MethodHandle" ∧ y.cls ≠ "java/lang/invoke/VarHandle" ∧ (parseMethodDescriptor y.desc).map (fun d => d.parameters.length) = some n) (hrm : rm.cells = 0 ∧ rm.slots = 0) (hR : rm.frames + 1 ≤ R.frames ∧ 8 + (nLy + 11) + rm.locals ≤ R.locals) : CallW R s args own y.cls idx y b nLy rety (.code y b nLy rety :: rx_W) rm 0 0 n :=
  ⟨callB_of (Ts := rx_W) n C.2.2.2.2.1 (rx_goodIn0 hcode) rfl hrm.1 hrm.2 (C.2.2.2.2.1 _ hini) (C.2.2.2.2.1 _ hlink) hd hR, C.2.2.2.2.1 _ hinst, C.2.2.2.2.1 _ hsel⟩
theorem rx_callV {y : MethodName} {b : ByteArray} {nLy idx n pc : Nat} {rety : Option FieldType} {rm : Room} {As : List Value} {i ci : Nat} {rv : Option Value} {fs : List Value} {T : u_T} {N : Nat} (C : rx_Cw p s m args meth c own cc nL ret G) (hcode : Cond.code y b nLy rety ∈ rx_W) (hlink : Cond.methodLink own idx y ∈ rx_W) (hinst : Cond.instanceMethod y ∈ rx_W) (hsel : Cond.selects y.cls y y ∈ rx_W) (hini : Cond.initialized y.cls ∈ rx_W)
    (hd : y.cls ≠ "java/lang/invoke/MethodHandle" ∧ y.cls ≠ "java/lang/invoke/VarHandle" ∧ (parseMethodDescriptor y.desc).map (fun d => d.parameters.length) = some n) (hc : rx_cl[ci]? = some (y.cls, T, N)) (hdg : decode cc pc = .ok (.invokevirtual idx, 3))
    (hi : i < rg_N G) (he : rg_E G i (σ i) = .inr (ci, fs)) (hM : rx_C l G y b nLy rety rm (.ref (rg_A G i) :: As) σ rv σ') (hrm : rm.cells = 0 ∧ rm.slots = 0) (hR : rm.frames + 1 ≤ R.frames ∧ 8 + (nLy + 11) + rm.locals ≤ R.locals) (hf : cells ≤ R.cells ∧ slots ≤ R.slots) (hn : As.length = n) (hst : st = As.reverse ++ .ref (rg_A G i) :: rest) (hW : (rest.map fun v => v.category).sum ≤ 8)
    (k : rx_X p l e R s m args below meth c (rg_O G) H0 cells slots Q nL (rx_m G σ') (pc + 3) lo (rv.toList ++ rest)) : rx_X p l e R s m args below meth c (rg_O G) H0 cells slots Q nL (rx_m G σ) pc lo st := by
  intro H locs ls hP hS hl
  have hrec := va_recv C.2.1.1 hP.1 (q0 := i) hc (a := rg_A G i) (fs := fs) (by rw [← he]; exact rx_at hi)
  refine rx_after (va_runV (As := As) (rest := rest) (b := rg_A G i) (Ts := rx_W) ⟨C.1.1, C.1.2.1, C.1.2.2.1, C.1.2.2.2.1, C.1.2.2.2.2.1⟩ hM (rx_cwV C.1 hcode hlink hinst hsel hini hd hrm hR) ⟨rx_blind, hrec, rx_pre hP C.2.1⟩ rfl hn hl.size hst (lv_room hW) hdg hf) hS (fun H1 locs1 h1 h2 => k H1 locs1 ls h1 h2 hl)
theorem rx_callVN {y : MethodName} {host : String} {b : ByteArray} {nLy idx n pc : Nat} {rety : Option FieldType} {rm : Room} {As : List Value} {i ci : Nat} {rv : Option Value} {fs : List Value} {T : u_T} {N : Nat} (C : rx_Cw p s m args meth c own cc nL ret G) (hcode : Cond.code y b nLy rety ∈ rx_W) (hlink : Cond.methodLinkNest own idx y host ∈ lw_tbl) (hinst : Cond.instanceMethod y ∈ rx_W) (hsel : Cond.selects y.cls y y ∈ rx_W) (hini : Cond.initialized y.cls ∈ rx_W)
    (hd : y.cls ≠ "java/lang/invoke/MethodHandle" ∧ y.cls ≠ "java/lang/invoke/VarHandle" ∧ (parseMethodDescriptor y.desc).map (fun d => d.parameters.length) = some n) (hc : rx_cl[ci]? = some (y.cls, T, N)) (hdg : decode cc pc = .ok (.invokevirtual idx, 3))
    (hi : i < rg_N G) (he : rg_E G i (σ i) = .inr (ci, fs)) (hM : rx_C l G y b nLy rety rm (.ref (rg_A G i) :: As) σ rv σ') (hrm : rm.cells = 0 ∧ rm.slots = 0) (hR : rm.frames + 1 ≤ R.frames ∧ 8 + (nLy + 11) + rm.locals ≤ R.locals) (hf : cells ≤ R.cells ∧ slots ≤ R.slots) (hn : As.length = n) (hst : st = As.reverse ++ .ref (rg_A G i) :: rest) (hW : (rest.map fun v => v.category).sum ≤ 8)
    (k : rx_X p l e R s m args below meth c (rg_O G) H0 cells slots Q nL (rx_m G σ') (pc + 3) lo (rv.toList ++ rest)) : rx_X p l e R s m args below meth c (rg_O G) H0 cells slots Q nL (rx_m G σ) pc lo st := by
  intro H locs ls hP hS hl
  have hrec := va_recv C.2.1.1 hP.1 (q0 := i) hc (a := rg_A G i) (fs := fs) (by rw [← he]; exact rx_at hi)
  refine rx_after (va_runVN (As := As) (rest := rest) (b := rg_A G i) (Ts := rx_W) (C := y.cls) ⟨C.1.1, C.1.2.1, C.1.2.2.1, C.1.2.2.2.1, C.1.2.2.2.2.1⟩ hM ⟨va_cnB (Ts := rx_W) n C.1.2.2.2.2.1 (rx_goodIn0 hcode) rfl hrm.1 hrm.2 (C.2.1.2 _ hlink rfl) (C.1.2.2.2.2.1 _ hini) hd hR, C.1.2.2.2.2.1 _ hinst, C.1.2.2.2.2.1 _ hsel⟩ ⟨rx_blind, hrec, rx_pre hP C.2.1⟩ rfl hn hl.size hst (lv_room hW) hdg hf) hS (fun H1 locs1 h1 h2 => k H1 locs1 ls h1 h2 hl)
theorem rx_cwS {y : MethodName} {b : ByteArray} {nLy idx n : Nat} {rety : Option FieldType} {rm : Room} (C : rx_Cx p s m args meth c own cc nL ret) (hcode : Cond.code y b nLy rety ∈ rx_W) (hlink : Cond.methodLink own idx y ∈ rx_W) (hstat : Cond.static y ∈ rx_W) (hini : Cond.initialized y.cls ∈ rx_W)
    (hd : y.cls ≠ "java/lang/invoke/MethodHandle" ∧ y.cls ≠ "java/lang/invoke/VarHandle" ∧ (parseMethodDescriptor y.desc).map (fun d => d.parameters.length) = some n) (hrm : rm.cells = 0 ∧ rm.slots = 0) (hR : rm.frames + 1 ≤ R.frames ∧ 8 + (nLy + 11) + rm.locals ≤ R.locals) : CallB R s args own idx y b nLy rety (.code y b nLy rety :: rx_W) rm 0 0 n ∧ (Cond.static y).before args s = true :=
  ⟨callB_of (Ts := rx_W) n C.2.2.2.2.1 (rx_goodIn0 hcode) rfl hrm.1 hrm.2 (C.2.2.2.2.1 _ hini) (C.2.2.2.2.1 _ hlink) hd hR, C.2.2.2.2.1 _ hstat⟩
/-- a static method of the own class that touches no cell, called where any heap stands -/
theorem rx_callS {O : Nat → Prop} {Φ : Heap → Prop} {y : MethodName} {b : ByteArray} {nLy idx n pc : Nat} {rety : Option FieldType} {rm : Room} {As : List Value} {v : Value} (C : rx_Cx p s m args meth c own cc nL ret) (hcode : Cond.code y b nLy rety ∈ rx_W) (hlink : Cond.methodLink own idx y ∈ rx_W) (hstat : Cond.static y ∈ rx_W) (hini : Cond.initialized y.cls ∈ rx_W)
    (hd : y.cls ≠ "java/lang/invoke/MethodHandle" ∧ y.cls ≠ "java/lang/invoke/VarHandle" ∧ (parseMethodDescriptor y.desc).map (fun d => d.parameters.length) = some n) (hdg : decode cc pc = .ok (.invokestatic idx, 3))
    (hM : rx_S l y b nLy rety rm As v) (hrm : rm.cells = 0 ∧ rm.slots = 0) (hR : rm.frames + 1 ≤ R.frames ∧ 8 + (nLy + 11) + rm.locals ≤ R.locals) (hf : cells ≤ R.cells ∧ slots ≤ R.slots) (hn : As.length = n) (hst : st = As.reverse ++ rest) (hW : (rest.map fun v => v.category).sum ≤ 8)
    (k : rx_X p l e R s m args below meth c O H0 cells slots Q nL Φ (pc + 3) lo (v :: rest)) : rx_X p l e R s m args below meth c O H0 cells slots Q nL Φ pc lo st :=
  fun H locs ls hP hS hl => rx_afterS (va_runS (As := As) (rest := rest) (Ts := rx_W) ⟨C.1, C.2.1, C.2.2.1, C.2.2.2.1, C.2.2.2.2.1⟩ hM (rx_cwS C hcode hlink hstat hini hd hrm hR) preEq rfl hn hl.size hst (lv_room hW) hdg hf) (k H locs ls hP hS hl)
/-- ends -/
theorem rx_iret {pc : Nat} {v : Int32} {rv : Option Value} (C : rx_Cw p s m args meth c own cc nL (some .int) G) (hdg : decode cc pc = .ok (.ireturn, 1)) (hv : some (.int v) = rv) (hσ : σ = σ') : rx_X p l e R s m args below meth c (rg_O G) s.heap cells slots (MQ below (rx_Q G rv σ') args s cells slots (rg_O G)) nL (rx_m G σ) pc lo [.int v] := by
  intro H locs ls hP hS hl
  subst hv hσ
  exact W.iret C.1.1 C.1.2.1 C.1.2.2.2.2.2.2 (fun t ht hW => ⟨rfl, by rw [ht]; exact hP, hS.F ht⟩) hS.2.2 hdg C.1.2.2.2.2.2.1
theorem rx_zret {pc : Nat} {v : Int32} {rv : Option Value} (C : rx_Cw p s m args meth c own cc nL (some .boolean) G) (hdg : decode cc pc = .ok (.ireturn, 1)) (hn : v = 0 ∨ v = 1) (hv : some (.int v) = rv) (hσ : σ = σ') : rx_X p l e R s m args below meth c (rg_O G) s.heap cells slots (MQ below (rx_Q G rv σ') args s cells slots (rg_O G)) nL (rx_m G σ) pc lo [.int v] := by
  intro H locs ls hP hS hl
  subst hv hσ
  exact W.zret C.1.1 C.1.2.1 C.1.2.2.2.2.2.2 (by rcases hn with rfl | rfl <;> rfl) (fun t ht hW => ⟨rfl, by rw [ht]; exact hP, hS.F ht⟩) hS.2.2 hdg C.1.2.2.2.2.2.1
theorem rx_vret {pc : Nat} (C : rx_Cw p s m args meth c own cc nL none G) (hdg : decode cc pc = .ok (.return_, 1)) (hσ : σ = σ') : rx_X p l e R s m args below meth c (rg_O G) s.heap cells slots (MQ below (rx_Q G none σ') args s cells slots (rg_O G)) nL (rx_m G σ) pc lo [] := by
  intro H locs ls hP hS hl
  subst hσ
  exact W.vret C.1.1 C.1.2.1 C.1.2.2.2.2.2.2 (fun t ht hW => ⟨rfl, by rw [ht]; exact hP, hS.F ht⟩) hS.2.2 hdg C.1.2.2.2.2.2.1
theorem rx_aret {pc a : Nat} {cn : String} {rv : Option Value} (C : rx_Cw p s m args meth c own cc nL (some (.object cn)) G) (hdg : decode cc pc = .ok (.areturn, 1)) (hv : some (.ref a) = rv) (hσ : σ = σ') : rx_X p l e R s m args below meth c (rg_O G) s.heap cells slots (MQ below (rx_Q G rv σ') args s cells slots (rg_O G)) nL (rx_m G σ) pc lo [.ref a] := by
  intro H locs ls hP hS hl
  subst hv hσ
  exact W.aret C.1.1 C.1.2.1 C.1.2.2.2.2.2.2 (Or.inl ⟨_, rfl⟩) (Or.inr ⟨_, rfl⟩) (fun t ht hW => ⟨rfl, by rw [ht]; exact hP, hS.F ht⟩) hS.2.2 hdg C.1.2.2.2.2.2.1
/-- fields -/
theorem rx_get {pc i ci k N idx : Nat} {Cn : String} {T : u_T} {fs : List Value} {v : Value} (C : rx_Cw p s m args meth c own cc nL ret G) (hin : ∀ w ∈ u_ws Cn T N, w ∈ rx_W) (hc : rx_cl[ci]? = some (Cn, T, N)) (hk : k < N) (hlink : Cond.fieldLink own idx (T k).1 (T k).2.1 (T k).2.2.1 ∈ rx_W) (hdg : decode cc pc = .ok (.getfield idx, 3)) (hi : i < rg_N G) (he : rg_E G i (σ i) = .inr (ci, fs)) (hv : fs[k]? = some v)
    (kk : rx_X p l e R s m args below meth c (rg_O G) H0 cells slots Q nL (rx_m G σ) (pc + 3) lo (v :: rest)) : rx_X p l e R s m args below meth c (rg_O G) H0 cells slots Q nL (rx_m G σ) pc lo (.ref (rg_A G i) :: rest) :=
  fun H locs ls hP hS hl => va_get (D := rg_D G) (ref := (T k).1) C.1.1 C.1.2.1 C.1.2.2.2.2.1 hin C.1.2.2.2.1 C.2.1.1 hP.1 i (by rw [← he]; exact rx_at hi) hc k hk (C.1.2.2.2.2.1 _ hlink) (fun _ h9 => h9) hv hdg (kk H locs ls hP hS hl)
theorem rx_getN {pc i ci k N idx : Nat} {Cn host : String} {T : u_T} {fs : List Value} {v : Value} (C : rx_Cw p s m args meth c own cc nL ret G) (hin : ∀ w ∈ u_ws Cn T N, w ∈ rx_W) (hc : rx_cl[ci]? = some (Cn, T, N)) (hk : k < N) (hlink : Cond.fieldLinkNest own idx (T k).1 (T k).2.1 (T k).2.2.1 host ∈ lw_tbl) (hdg : decode cc pc = .ok (.getfield idx, 3)) (hi : i < rg_N G) (he : rg_E G i (σ i) = .inr (ci, fs)) (hv : fs[k]? = some v)
    (kk : rx_X p l e R s m args below meth c (rg_O G) H0 cells slots Q nL (rx_m G σ) (pc + 3) lo (v :: rest)) : rx_X p l e R s m args below meth c (rg_O G) H0 cells slots Q nL (rx_m G σ) pc lo (.ref (rg_A G i) :: rest) :=
  fun H locs ls hP hS hl => va_getN (D := rg_D G) (ref := (T k).1) C.1.1 C.1.2.1 C.1.2.2.2.2.1 hin C.1.2.2.2.1 C.2.1.1 hP.1 i (by rw [← he]; exact rx_at hi) hc k hk (va_Nw.use rfl (C.2.1.2 _ hlink rfl)) (fun _ h9 => h9) hv hdg (kk H locs ls hP hS hl)
theorem rx_put {pc i ci k N idx : Nat} {Cn : String} {T : u_T} {fs : List Value} {x : Int32} {ty0 : Nat → FieldType} (C : rx_Cw p s m args meth c own cc nL ret G) (hin : ∀ w ∈ u_ws Cn T N, w ∈ rx_W) (hty : ∀ k, k < N → parseFieldDescriptor (T k).2.2.1 = some (ty0 k)) (hnm : ∀ a, a < N → ∀ b, b < N → a ≠ b → (T a).2.1 ≠ (T b).2.1) (hc : rx_cl[ci]? = some (Cn, T, N)) (hk : k < N) (hlink : Cond.fieldLink own idx (T k).1 (T k).2.1 (T k).2.2.1 ∈ rx_W) (hfin : (T k).2.2.2 = false) (hd : parseFieldDescriptor (T k).2.2.1 = some .int) (hdg : decode cc pc = .ok (.putfield idx, 3)) (hi : i < rg_N G) (he : rg_E G i (σ i) = .inr (ci, fs)) (hl0 : k < fs.length) (he2 : .inr (ci, fs.set k (.int x)) = rg_E G i (upd (σ i) k x)) (hI : rx_SI σ → rx_SI (rx_wr σ i k x))
    (kk : rx_X p l e R s m args below meth c (rg_O G) H0 cells slots Q nL (rx_m G (rx_wr σ i k x)) (pc + 3) lo rest) : rx_X p l e R s m args below meth c (rg_O G) H0 cells slots Q nL (rx_m G σ) pc lo (.int x :: .ref (rg_A G i) :: rest) := by
  intro H locs ls hP hS hl
  refine va_put (D := rg_D G) (ref := (T k).1) C.1.1 C.1.2.1 C.1.2.2.2.2.1 hin ty0 hty hnm C.1.2.2.2.1 C.2.1.1 hP.1 (C.2.2.va _) hS i (by rw [← he]; exact rx_at hi) hc k hk (C.1.2.2.2.2.1 _ hlink) (fun _ h9 => h9) hfin hd rfl rfl hl0 hdg (fun H1 locs1 h1 h2 h3 => kk H1 locs1 ls ?_ h3 hl)
  have h4 := rx_set (ad := rg_A G) (E := rg_E G) (n := rg_N G) (σ := σ) (i := i) (k := k) (v := x) hi he2
  refine ⟨?_, hI hP.2⟩
  show va_P (rg_D G) rx_cl (rx_wd (rg_A G) (rg_E G) (rg_N G) (rx_wr σ i k x)) H1
  rw [← h4]
  exact h1
theorem rx_putN {pc i ci k N idx : Nat} {Cn host : String} {T : u_T} {fs : List Value} {x : Int32} {ty0 : Nat → FieldType} (C : rx_Cw p s m args meth c own cc nL ret G) (hin : ∀ w ∈ u_ws Cn T N, w ∈ rx_W) (hty : ∀ k, k < N → parseFieldDescriptor (T k).2.2.1 = some (ty0 k)) (hnm : ∀ a, a < N → ∀ b, b < N → a ≠ b → (T a).2.1 ≠ (T b).2.1) (hc : rx_cl[ci]? = some (Cn, T, N)) (hk : k < N) (hlink : Cond.fieldLinkNest own idx (T k).1 (T k).2.1 (T k).2.2.1 host ∈ lw_tbl) (hfin : (T k).2.2.2 = false) (hd : parseFieldDescriptor (T k).2.2.1 = some .int) (hdg : decode cc pc = .ok (.putfield idx, 3)) (hi : i < rg_N G) (he : rg_E G i (σ i) = .inr (ci, fs)) (hl0 : k < fs.length) (he2 : .inr (ci, fs.set k (.int x)) = rg_E G i (upd (σ i) k x)) (hI : rx_SI σ → rx_SI (rx_wr σ i k x))
    (kk : rx_X p l e R s m args below meth c (rg_O G) H0 cells slots Q nL (rx_m G (rx_wr σ i k x)) (pc + 3) lo rest) : rx_X p l e R s m args below meth c (rg_O G) H0 cells slots Q nL (rx_m G σ) pc lo (.int x :: .ref (rg_A G i) :: rest) := by
  intro H locs ls hP hS hl
  refine va_putN (D := rg_D G) (ref := (T k).1) C.1.1 C.1.2.1 C.1.2.2.2.2.1 hin ty0 hty hnm C.1.2.2.2.1 C.2.1.1 hP.1 (C.2.2.va _) hS i (by rw [← he]; exact rx_at hi) hc k hk (va_Nw.use rfl (C.2.1.2 _ hlink rfl)) (fun _ h9 => h9) hfin hd rfl rfl hl0 hdg (fun H1 locs1 h1 h2 h3 => kk H1 locs1 ls ?_ h3 hl)
  have h4 := rx_set (ad := rg_A G) (E := rg_E G) (n := rg_N G) (σ := σ) (i := i) (k := k) (v := x) hi he2
  refine ⟨?_, hI hP.2⟩
  show va_P (rg_D G) rx_cl (rx_wd (rg_A G) (rg_E G) (rg_N G) (rx_wr σ i k x)) H1
  rw [← h4]
  exact h1
/-- arrays -/
theorem rx_iald {pc i n : Nat} {j : Int32} (C : rx_Cw p s m args meth c own cc nL ret G) (hdg : decode cc pc = .ok (.iaload, 1)) (hi : i < rg_N G) (he : rg_E G i (σ i) = .inl (rg_C G 0, n, .inl (σ i))) (hin : vp_in j n)
    (kk : rx_X p l e R s m args below meth c (rg_O G) H0 cells slots Q nL (rx_m G σ) (pc + 1) lo (.int (σ i j.toNatClampNeg) :: rest)) : rx_X p l e R s m args below meth c (rg_O G) H0 cells slots Q nL (rx_m G σ) pc lo (.int j :: .ref (rg_A G i) :: rest) :=
  fun H locs ls hP hS hl => va_iald (D := rg_D G) C.1.1 C.1.2.1 C.2.1.1 hP.1 i 0 (by rw [← he]; exact rx_at hi) rfl hin hdg (kk H locs ls hP hS hl)
theorem rx_iast {pc i n : Nat} {j x : Int32} (C : rx_Cw p s m args meth c own cc nL ret G) (hdg : decode cc pc = .ok (.iastore, 1)) (hi : i < rg_N G) (he : ∀ f : Nat → Int32, rg_E G i f = .inl (rg_C G 0, n, .inl f)) (hin : vp_in j n) (hI : rx_SI σ → rx_SI (rx_wr σ i j.toNatClampNeg x))
    (kk : rx_X p l e R s m args below meth c (rg_O G) H0 cells slots Q nL (rx_m G (rx_wr σ i j.toNatClampNeg x)) (pc + 1) lo rest) : rx_X p l e R s m args below meth c (rg_O G) H0 cells slots Q nL (rx_m G σ) pc lo (.int x :: .int j :: .ref (rg_A G i) :: rest) := by
  intro H locs ls hP hS hl
  refine va_iast (D := rg_D G) C.1.1 C.1.2.1 C.2.1.1 hP.1 (C.2.2.va _) hS i 0 (by rw [← he (σ i)]; exact rx_at hi) rfl hin hdg (fun H1 locs1 h1 h2 h3 => kk H1 locs1 ls ?_ h3 hl)
  have h4 := rx_set (ad := rg_A G) (E := rg_E G) (n := rg_N G) (σ := σ) (i := i) (k := j.toNatClampNeg) (v := x) hi (he _).symm
  refine ⟨?_, hI hP.2⟩
  show va_P (rg_D G) rx_cl (rx_wd (rg_A G) (rg_E G) (rg_N G) (rx_wr σ i j.toNatClampNeg x)) H1
  rw [← h4]
  exact h1
theorem rx_aald {pc i n t a : Nat} {j : Int32} {f : Nat → Option Nat} {cA : ClassId} {Cn : String} (C : rx_Cw p s m args meth c own cc nL ret G) (hdg : decode cc pc = .ok (.aaload, 1)) (hi : i < rg_N G) (he : rg_E G i (σ i) = .inl (cA, n, .inr (.inr (.inr (.inr f))))) (ht : (rx_tys G)[t]? = some (cA, .object Cn)) (hin : vp_in j n) (hf : f j.toNatClampNeg = some a)
    (kk : rx_X p l e R s m args below meth c (rg_O G) H0 cells slots Q nL (rx_m G σ) (pc + 1) lo (.ref a :: rest)) : rx_X p l e R s m args below meth c (rg_O G) H0 cells slots Q nL (rx_m G σ) pc lo (.int j :: .ref (rg_A G i) :: rest) := by
  intro H locs ls hP hS hl
  refine va_aldq (D := rg_D G) C.1.1 C.1.2.1 C.2.1.1 hP.1 i t (by rw [← he]; exact rx_at hi) ht hin hdg ?_
  rw [hf]
  exact kk H locs ls hP hS hl
theorem rx_aast {pc i qk n t ci : Nat} {j x : Int32} {f : Nat → Option Nat} {cA : ClassId} {r : vw_C} {vs : List Value} (C : rx_Cw p s m args meth c own cc nL ret G) (hdg : decode cc pc = .ok (.aastore, 1)) (hi : i < rg_N G) (he : rg_E G i (σ i) = .inl (cA, n, .inr (.inr (.inr (.inr f))))) (ht : (rx_tys G)[t]? = some (cA, .object r.1)) (hq : qk < rg_N G) (hqe : rg_E G qk (σ qk) = .inr (ci, vs)) (hc : rx_cl[ci]? = some r) (hin : vp_in j n) (he2 : .inl (cA, n, .inr (.inr (.inr (.inr (va_up f j.toNatClampNeg (some (rg_A G qk))))))) = rg_E G i (upd (σ i) j.toNatClampNeg x)) (hI : rx_SI σ → rx_SI (rx_wr σ i j.toNatClampNeg x))
    (kk : rx_X p l e R s m args below meth c (rg_O G) H0 cells slots Q nL (rx_m G (rx_wr σ i j.toNatClampNeg x)) (pc + 1) lo rest) : rx_X p l e R s m args below meth c (rg_O G) H0 cells slots Q nL (rx_m G σ) pc lo (.ref (rg_A G qk) :: .int j :: .ref (rg_A G i) :: rest) := by
  intro H locs ls hP hS hl
  refine va_astq (D := rg_D G) C.1.1 C.1.2.1 C.2.1.1 hP.1 (C.2.2.va _) hS i t qk ci (by rw [← he]; exact rx_at hi) ht (by rw [← hqe]; exact rx_at hq) hc hin hdg (fun H1 locs1 h1 h2 h3 => kk H1 locs1 ls ?_ h3 hl)
  have h4 := rx_set (ad := rg_A G) (E := rg_E G) (n := rg_N G) (σ := σ) (i := i) (k := j.toNatClampNeg) (v := x) hi he2
  refine ⟨?_, hI hP.2⟩
  show va_P (rg_D G) rx_cl (rx_wd (rg_A G) (rg_E G) (rg_N G) (rx_wr σ i j.toNatClampNeg x)) H1
  rw [← h4]
  exact h1
theorem rx_si {pc : Nat} (k : rx_SI σ → rx_X p l e R s m args below meth c (rg_O G) H0 cells slots Q nL (rx_m G σ) pc lo st) : rx_X p l e R s m args below meth c (rg_O G) H0 cells slots Q nL (rx_m G σ) pc lo st :=
  fun H locs ls hP hS hl => k hP.2 H locs ls hP hS hl
end RXA
/-! plain instructions over the flat memory -/
section RXB
variable {p : Program} {l : Launch} {e : Env} {R : Room} {s : State} {m : MethodId} {args : Array Value} {below : List Frame} {meth : Method} {c : Code} {O : Nat → Prop} {H0 : Heap} {cells slots : Nat} {Q : State → Prop} {nL : Nat} {Φ : Heap → Prop} {lo : List (Nat × Value)} {rest : List Value} {own : String} {cc : ByteArray} {ret : Option FieldType} {pc : Nat}
theorem rx_iconst (C : rx_Cx p s m args meth c own cc nL ret) {n : Int} {v : Int32} (hd : decode cc pc = .ok (.iconst n, 1)) (hv : Int32.ofInt n = v)
    (k : rx_X p l e R s m args below meth c O H0 cells slots Q nL Φ (pc + 1) lo (.int v :: rest)) : rx_X p l e R s m args below meth c O H0 cells slots Q nL Φ pc lo rest :=
  fun H locs ls hP hS hl => lv_iconst C.1 C.2.1 hd hv (k H locs ls hP hS hl)
theorem rx_bipush (C : rx_Cx p s m args meth c own cc nL ret) {n : Int} {v : Int32} (hd : decode cc pc = .ok (.bipush n, 2)) (hv : (Int8.ofInt n).toInt32 = v)
    (k : rx_X p l e R s m args below meth c O H0 cells slots Q nL Φ (pc + 2) lo (.int v :: rest)) : rx_X p l e R s m args below meth c O H0 cells slots Q nL Φ pc lo rest :=
  fun H locs ls hP hS hl => lv_bipush C.1 C.2.1 hd hv (k H locs ls hP hS hl)
theorem rx_sipush (C : rx_Cx p s m args meth c own cc nL ret) {n : Int} {v : Int32} (hd : decode cc pc = .ok (.sipush n, 3)) (hv : (Int16.ofInt n).toInt32 = v)
    (k : rx_X p l e R s m args below meth c O H0 cells slots Q nL Φ (pc + 3) lo (.int v :: rest)) : rx_X p l e R s m args below meth c O H0 cells slots Q nL Φ pc lo rest :=
  fun H locs ls hP hS hl => lv_sipush C.1 C.2.1 hd hv (k H locs ls hP hS hl)
theorem rx_iload_n (C : rx_Cx p s m args meth c own cc nL ret) {j : Fin 4} {x : Int32} (hd : decode cc pc = .ok (.iload_n j, 1)) (hx : rx_lk lo (j : Nat) = some (.int x))
    (k : rx_X p l e R s m args below meth c O H0 cells slots Q nL Φ (pc + 1) lo (.int x :: rest)) : rx_X p l e R s m args below meth c O H0 cells slots Q nL Φ pc lo rest :=
  fun H locs ls hP hS hl => lv_iload_n C.1 C.2.1 hd rfl (hl.val hx) (k H locs ls hP hS hl)
theorem rx_iload (C : rx_Cx p s m args meth c own cc nL ret) {j : Nat} {x : Int32} (hd : decode cc pc = .ok (.iload j, 2)) (hx : rx_lk lo j = some (.int x))
    (k : rx_X p l e R s m args below meth c O H0 cells slots Q nL Φ (pc + 2) lo (.int x :: rest)) : rx_X p l e R s m args below meth c O H0 cells slots Q nL Φ pc lo rest :=
  fun H locs ls hP hS hl => lv_iload C.1 C.2.1 hd (hl.val hx) (k H locs ls hP hS hl)
theorem rx_aload_n (C : rx_Cx p s m args meth c own cc nL ret) {j : Fin 4} {x : Nat} (hd : decode cc pc = .ok (.aload_n j, 1)) (hx : rx_lk lo (j : Nat) = some (.ref x))
    (k : rx_X p l e R s m args below meth c O H0 cells slots Q nL Φ (pc + 1) lo (.ref x :: rest)) : rx_X p l e R s m args below meth c O H0 cells slots Q nL Φ pc lo rest :=
  fun H locs ls hP hS hl => lv_aload_n C.1 C.2.1 hd rfl (hl.val hx) (k H locs ls hP hS hl)
theorem rx_aload (C : rx_Cx p s m args meth c own cc nL ret) {j : Nat} {x : Nat} (hd : decode cc pc = .ok (.aload j, 2)) (hx : rx_lk lo j = some (.ref x))
    (k : rx_X p l e R s m args below meth c O H0 cells slots Q nL Φ (pc + 2) lo (.ref x :: rest)) : rx_X p l e R s m args below meth c O H0 cells slots Q nL Φ pc lo rest :=
  fun H locs ls hP hS hl => lv_aload C.1 C.2.1 hd (hl.val hx) (k H locs ls hP hS hl)
theorem rx_iadd (C : rx_Cx p s m args meth c own cc nL ret) {x y : Int32} (hd : decode cc pc = .ok (.iadd, 1))
    (k : rx_X p l e R s m args below meth c O H0 cells slots Q nL Φ (pc + 1) lo (.int (x + y) :: rest)) : rx_X p l e R s m args below meth c O H0 cells slots Q nL Φ pc lo (.int y :: .int x :: rest) :=
  fun H locs ls hP hS hl => lv_iadd C.1 C.2.1 hd (k H locs ls hP hS hl)
theorem rx_isub (C : rx_Cx p s m args meth c own cc nL ret) {x y : Int32} (hd : decode cc pc = .ok (.isub, 1))
    (k : rx_X p l e R s m args below meth c O H0 cells slots Q nL Φ (pc + 1) lo (.int (x - y) :: rest)) : rx_X p l e R s m args below meth c O H0 cells slots Q nL Φ pc lo (.int y :: .int x :: rest) :=
  fun H locs ls hP hS hl => lv_isub C.1 C.2.1 hd (k H locs ls hP hS hl)
theorem rx_imul (C : rx_Cx p s m args meth c own cc nL ret) {x y : Int32} (hd : decode cc pc = .ok (.imul, 1))
    (k : rx_X p l e R s m args below meth c O H0 cells slots Q nL Φ (pc + 1) lo (.int (x * y) :: rest)) : rx_X p l e R s m args below meth c O H0 cells slots Q nL Φ pc lo (.int y :: .int x :: rest) :=
  fun H locs ls hP hS hl => lv_imul C.1 C.2.1 hd (k H locs ls hP hS hl)
theorem rx_iand (C : rx_Cx p s m args meth c own cc nL ret) {x y : Int32} (hd : decode cc pc = .ok (.iand, 1))
    (k : rx_X p l e R s m args below meth c O H0 cells slots Q nL Φ (pc + 1) lo (.int (x &&& y) :: rest)) : rx_X p l e R s m args below meth c O H0 cells slots Q nL Φ pc lo (.int y :: .int x :: rest) :=
  fun H locs ls hP hS hl => lv_iand C.1 C.2.1 hd (k H locs ls hP hS hl)
theorem rx_ior (C : rx_Cx p s m args meth c own cc nL ret) {x y : Int32} (hd : decode cc pc = .ok (.ior, 1))
    (k : rx_X p l e R s m args below meth c O H0 cells slots Q nL Φ (pc + 1) lo (.int (x ||| y) :: rest)) : rx_X p l e R s m args below meth c O H0 cells slots Q nL Φ pc lo (.int y :: .int x :: rest) :=
  fun H locs ls hP hS hl => lv_ior C.1 C.2.1 hd (k H locs ls hP hS hl)
theorem rx_ixor (C : rx_Cx p s m args meth c own cc nL ret) {x y : Int32} (hd : decode cc pc = .ok (.ixor, 1))
    (k : rx_X p l e R s m args below meth c O H0 cells slots Q nL Φ (pc + 1) lo (.int (x ^^^ y) :: rest)) : rx_X p l e R s m args below meth c O H0 cells slots Q nL Φ pc lo (.int y :: .int x :: rest) :=
  fun H locs ls hP hS hl => lv_ixor C.1 C.2.1 hd (k H locs ls hP hS hl)
theorem rx_idiv (C : rx_Cx p s m args meth c own cc nL ret) {x y : Int32} (hd : decode cc pc = .ok (.idiv, 1)) (hne : ¬ y = 0)
    (k : rx_X p l e R s m args below meth c O H0 cells slots Q nL Φ (pc + 1) lo (.int (x / y) :: rest)) : rx_X p l e R s m args below meth c O H0 cells slots Q nL Φ pc lo (.int y :: .int x :: rest) :=
  fun H locs ls hP hS hl => lv_idiv C.1 C.2.1 hd hne (k H locs ls hP hS hl)
theorem rx_irem (C : rx_Cx p s m args meth c own cc nL ret) {x y : Int32} (hd : decode cc pc = .ok (.irem, 1)) (hne : ¬ y = 0)
    (k : rx_X p l e R s m args below meth c O H0 cells slots Q nL Φ (pc + 1) lo (.int (x - x / y * y) :: rest)) : rx_X p l e R s m args below meth c O H0 cells slots Q nL Φ pc lo (.int y :: .int x :: rest) :=
  fun H locs ls hP hS hl => lv_irem C.1 C.2.1 hd hne (k H locs ls hP hS hl)
theorem rx_idivv (C : rx_Cx p s m args meth c own cc nL ret) {x y v : Int32} (hd : decode cc pc = .ok (.idiv, 1)) (hne : ¬ y = 0) (hv : x / y = v)
    (k : rx_X p l e R s m args below meth c O H0 cells slots Q nL Φ (pc + 1) lo (.int v :: rest)) : rx_X p l e R s m args below meth c O H0 cells slots Q nL Φ pc lo (.int y :: .int x :: rest) := by
  subst hv
  exact rx_idiv C hd hne k
theorem rx_iremv (C : rx_Cx p s m args meth c own cc nL ret) {x y v : Int32} (hd : decode cc pc = .ok (.irem, 1)) (hne : ¬ y = 0) (hv : x - x / y * y = v)
    (k : rx_X p l e R s m args below meth c O H0 cells slots Q nL Φ (pc + 1) lo (.int v :: rest)) : rx_X p l e R s m args below meth c O H0 cells slots Q nL Φ pc lo (.int y :: .int x :: rest) := by
  subst hv
  exact rx_irem C hd hne k
theorem rx_iushr (C : rx_Cx p s m args meth c own cc nL ret) {x y v : Int32} (hd : decode cc pc = .ok (.iushr, 1)) (hv : (x.toUInt32 >>> (y.toUInt32 &&& Int32.toUInt32 31)).toInt32 = v)
    (k : rx_X p l e R s m args below meth c O H0 cells slots Q nL Φ (pc + 1) lo (.int v :: rest)) : rx_X p l e R s m args below meth c O H0 cells slots Q nL Φ pc lo (.int y :: .int x :: rest) :=
  fun H locs ls hP hS hl => lv_iushr C.1 C.2.1 hd hv (k H locs ls hP hS hl)
theorem rx_dup (C : rx_Cx p s m args meth c own cc nL ret) {va : Value} (hd : decode cc pc = .ok (.dup, 1)) (hva : va.category = 1)
    (k : rx_X p l e R s m args below meth c O H0 cells slots Q nL Φ (pc + 1) lo (va :: va :: rest)) : rx_X p l e R s m args below meth c O H0 cells slots Q nL Φ pc lo (va :: rest) :=
  fun H locs ls hP hS hl => lv_dup C.1 C.2.1 hd hva (k H locs ls hP hS hl)
theorem rx_pop (C : rx_Cx p s m args meth c own cc nL ret) {va : Value} (hd : decode cc pc = .ok (.pop, 1)) (hva : va.category = 1)
    (k : rx_X p l e R s m args below meth c O H0 cells slots Q nL Φ (pc + 1) lo rest) : rx_X p l e R s m args below meth c O H0 cells slots Q nL Φ pc lo (va :: rest) :=
  fun H locs ls hP hS hl => lv_pop C.1 C.2.1 hd hva (k H locs ls hP hS hl)
theorem rx_dup_x1 (C : rx_Cx p s m args meth c own cc nL ret) {va vb : Value} (hd : decode cc pc = .ok (.dup_x1, 1)) (hva : va.category = 1) (hvb : vb.category = 1)
    (k : rx_X p l e R s m args below meth c O H0 cells slots Q nL Φ (pc + 1) lo (va :: vb :: va :: rest)) : rx_X p l e R s m args below meth c O H0 cells slots Q nL Φ pc lo (va :: vb :: rest) :=
  fun H locs ls hP hS hl => lv_dup_x1 C.1 C.2.1 hd hva hvb (k H locs ls hP hS hl)
theorem rx_dup_x2 (C : rx_Cx p s m args meth c own cc nL ret) {va vb vd : Value} (hd : decode cc pc = .ok (.dup_x2, 1)) (hva : va.category = 1) (hvb : vb.category = 1) (hvd : vd.category = 1)
    (k : rx_X p l e R s m args below meth c O H0 cells slots Q nL Φ (pc + 1) lo (va :: vb :: vd :: va :: rest)) : rx_X p l e R s m args below meth c O H0 cells slots Q nL Φ pc lo (va :: vb :: vd :: rest) :=
  fun H locs ls hP hS hl => lv_dup_x2 C.1 C.2.1 hd hva hvb hvd (k H locs ls hP hS hl)
theorem rx_dup2_11 (C : rx_Cx p s m args meth c own cc nL ret) {va vb : Value} (hd : decode cc pc = .ok (.dup2, 1)) (hva : va.category = 1) (hvb : vb.category = 1)
    (k : rx_X p l e R s m args below meth c O H0 cells slots Q nL Φ (pc + 1) lo (va :: vb :: va :: vb :: rest)) : rx_X p l e R s m args below meth c O H0 cells slots Q nL Φ pc lo (va :: vb :: rest) :=
  fun H locs ls hP hS hl => lv_dup2_11 C.1 C.2.1 hd hva hvb (k H locs ls hP hS hl)
theorem rx_ldc (C : rx_Cx p s m args meth c own cc nL ret) {idx : Nat} {v : Int32} (hconst : Cond.constant own idx v ∈ rx_W) (hd : decode cc pc = .ok (.ldc idx, 2))
    (k : rx_X p l e R s m args below meth c O H0 cells slots Q nL Φ (pc + 2) lo (.int v :: rest)) : rx_X p l e R s m args below meth c O H0 cells slots Q nL Φ pc lo rest :=
  fun H locs ls hP hS hl => lv_ldc C.1 C.2.1 C.2.2.2.1 (C.2.2.2.2.1 _ hconst) hd (k H locs ls hP hS hl)
theorem rx_goto (C : rx_Cx p s m args meth c own cc nL ret) {off : Int} {tgt : Nat} (hd : decode cc pc = .ok (.goto off, 3)) (ht : (pc : Int) + off = (tgt : Int))
    (k : rx_X p l e R s m args below meth c O H0 cells slots Q nL Φ tgt lo rest) : rx_X p l e R s m args below meth c O H0 cells slots Q nL Φ pc lo rest :=
  fun H locs ls hP hS hl => lv_goto C.1 C.2.1 hd ht (k H locs ls hP hS hl)
theorem rx_if_eq (C : rx_Cx p s m args meth c own cc nL ret) {x : Int32} {off : Int} {tgt : Nat} (hd : decode cc pc = .ok (.ifCond .eq off, 3)) (ht : (pc : Int) + off = (tgt : Int))
    (kt : x = 0 → rx_X p l e R s m args below meth c O H0 cells slots Q nL Φ tgt lo rest) (kf : ¬ x = 0 → rx_X p l e R s m args below meth c O H0 cells slots Q nL Φ (pc + 3) lo rest) : rx_X p l e R s m args below meth c O H0 cells slots Q nL Φ pc lo (.int x :: rest) :=
  fun H locs ls hP hS hl => lv_if_eq C.1 C.2.1 hd ht (fun h => kt h H locs ls hP hS hl) (fun h => kf h H locs ls hP hS hl)
theorem rx_if_ne (C : rx_Cx p s m args meth c own cc nL ret) {x : Int32} {off : Int} {tgt : Nat} (hd : decode cc pc = .ok (.ifCond .ne off, 3)) (ht : (pc : Int) + off = (tgt : Int))
    (kt : ¬ x = 0 → rx_X p l e R s m args below meth c O H0 cells slots Q nL Φ tgt lo rest) (kf : x = 0 → rx_X p l e R s m args below meth c O H0 cells slots Q nL Φ (pc + 3) lo rest) : rx_X p l e R s m args below meth c O H0 cells slots Q nL Φ pc lo (.int x :: rest) :=
  fun H locs ls hP hS hl => lv_if_ne C.1 C.2.1 hd ht (fun h => kt h H locs ls hP hS hl) (fun h => kf h H locs ls hP hS hl)
theorem rx_if_lt (C : rx_Cx p s m args meth c own cc nL ret) {x : Int32} {off : Int} {tgt : Nat} (hd : decode cc pc = .ok (.ifCond .lt off, 3)) (ht : (pc : Int) + off = (tgt : Int))
    (kt : x < 0 → rx_X p l e R s m args below meth c O H0 cells slots Q nL Φ tgt lo rest) (kf : ¬ x < 0 → rx_X p l e R s m args below meth c O H0 cells slots Q nL Φ (pc + 3) lo rest) : rx_X p l e R s m args below meth c O H0 cells slots Q nL Φ pc lo (.int x :: rest) :=
  fun H locs ls hP hS hl => lv_if_lt C.1 C.2.1 hd ht (fun h => kt h H locs ls hP hS hl) (fun h => kf h H locs ls hP hS hl)
theorem rx_if_ge (C : rx_Cx p s m args meth c own cc nL ret) {x : Int32} {off : Int} {tgt : Nat} (hd : decode cc pc = .ok (.ifCond .ge off, 3)) (ht : (pc : Int) + off = (tgt : Int))
    (kt : 0 ≤ x → rx_X p l e R s m args below meth c O H0 cells slots Q nL Φ tgt lo rest) (kf : ¬ 0 ≤ x → rx_X p l e R s m args below meth c O H0 cells slots Q nL Φ (pc + 3) lo rest) : rx_X p l e R s m args below meth c O H0 cells slots Q nL Φ pc lo (.int x :: rest) :=
  fun H locs ls hP hS hl => lv_if_ge C.1 C.2.1 hd ht (fun h => kt h H locs ls hP hS hl) (fun h => kf h H locs ls hP hS hl)
theorem rx_if_gt (C : rx_Cx p s m args meth c own cc nL ret) {x : Int32} {off : Int} {tgt : Nat} (hd : decode cc pc = .ok (.ifCond .gt off, 3)) (ht : (pc : Int) + off = (tgt : Int))
    (kt : 0 < x → rx_X p l e R s m args below meth c O H0 cells slots Q nL Φ tgt lo rest) (kf : ¬ 0 < x → rx_X p l e R s m args below meth c O H0 cells slots Q nL Φ (pc + 3) lo rest) : rx_X p l e R s m args below meth c O H0 cells slots Q nL Φ pc lo (.int x :: rest) :=
  fun H locs ls hP hS hl => lv_if_gt C.1 C.2.1 hd ht (fun h => kt h H locs ls hP hS hl) (fun h => kf h H locs ls hP hS hl)
theorem rx_if_le (C : rx_Cx p s m args meth c own cc nL ret) {x : Int32} {off : Int} {tgt : Nat} (hd : decode cc pc = .ok (.ifCond .le off, 3)) (ht : (pc : Int) + off = (tgt : Int))
    (kt : x ≤ 0 → rx_X p l e R s m args below meth c O H0 cells slots Q nL Φ tgt lo rest) (kf : ¬ x ≤ 0 → rx_X p l e R s m args below meth c O H0 cells slots Q nL Φ (pc + 3) lo rest) : rx_X p l e R s m args below meth c O H0 cells slots Q nL Φ pc lo (.int x :: rest) :=
  fun H locs ls hP hS hl => lv_if_le C.1 C.2.1 hd ht (fun h => kt h H locs ls hP hS hl) (fun h => kf h H locs ls hP hS hl)
theorem rx_icmp_eq (C : rx_Cx p s m args meth c own cc nL ret) {x y : Int32} {off : Int} {tgt : Nat} (hd : decode cc pc = .ok (.if_icmp .eq off, 3)) (ht : (pc : Int) + off = (tgt : Int))
    (kt : x = y → rx_X p l e R s m args below meth c O H0 cells slots Q nL Φ tgt lo rest) (kf : ¬ x = y → rx_X p l e R s m args below meth c O H0 cells slots Q nL Φ (pc + 3) lo rest) : rx_X p l e R s m args below meth c O H0 cells slots Q nL Φ pc lo (.int y :: .int x :: rest) :=
  fun H locs ls hP hS hl => lv_icmp_eq C.1 C.2.1 hd ht (fun h => kt h H locs ls hP hS hl) (fun h => kf h H locs ls hP hS hl)
theorem rx_icmp_ne (C : rx_Cx p s m args meth c own cc nL ret) {x y : Int32} {off : Int} {tgt : Nat} (hd : decode cc pc = .ok (.if_icmp .ne off, 3)) (ht : (pc : Int) + off = (tgt : Int))
    (kt : ¬ x = y → rx_X p l e R s m args below meth c O H0 cells slots Q nL Φ tgt lo rest) (kf : x = y → rx_X p l e R s m args below meth c O H0 cells slots Q nL Φ (pc + 3) lo rest) : rx_X p l e R s m args below meth c O H0 cells slots Q nL Φ pc lo (.int y :: .int x :: rest) :=
  fun H locs ls hP hS hl => lv_icmp_ne C.1 C.2.1 hd ht (fun h => kt h H locs ls hP hS hl) (fun h => kf h H locs ls hP hS hl)
theorem rx_icmp_lt (C : rx_Cx p s m args meth c own cc nL ret) {x y : Int32} {off : Int} {tgt : Nat} (hd : decode cc pc = .ok (.if_icmp .lt off, 3)) (ht : (pc : Int) + off = (tgt : Int))
    (kt : x < y → rx_X p l e R s m args below meth c O H0 cells slots Q nL Φ tgt lo rest) (kf : ¬ x < y → rx_X p l e R s m args below meth c O H0 cells slots Q nL Φ (pc + 3) lo rest) : rx_X p l e R s m args below meth c O H0 cells slots Q nL Φ pc lo (.int y :: .int x :: rest) :=
  fun H locs ls hP hS hl => lv_icmp_lt C.1 C.2.1 hd ht (fun h => kt h H locs ls hP hS hl) (fun h => kf h H locs ls hP hS hl)
theorem rx_icmp_ge (C : rx_Cx p s m args meth c own cc nL ret) {x y : Int32} {off : Int} {tgt : Nat} (hd : decode cc pc = .ok (.if_icmp .ge off, 3)) (ht : (pc : Int) + off = (tgt : Int))
    (kt : y ≤ x → rx_X p l e R s m args below meth c O H0 cells slots Q nL Φ tgt lo rest) (kf : ¬ y ≤ x → rx_X p l e R s m args below meth c O H0 cells slots Q nL Φ (pc + 3) lo rest) : rx_X p l e R s m args below meth c O H0 cells slots Q nL Φ pc lo (.int y :: .int x :: rest) :=
  fun H locs ls hP hS hl => lv_icmp_ge C.1 C.2.1 hd ht (fun h => kt h H locs ls hP hS hl) (fun h => kf h H locs ls hP hS hl)
theorem rx_icmp_gt (C : rx_Cx p s m args meth c own cc nL ret) {x y : Int32} {off : Int} {tgt : Nat} (hd : decode cc pc = .ok (.if_icmp .gt off, 3)) (ht : (pc : Int) + off = (tgt : Int))
    (kt : y < x → rx_X p l e R s m args below meth c O H0 cells slots Q nL Φ tgt lo rest) (kf : ¬ y < x → rx_X p l e R s m args below meth c O H0 cells slots Q nL Φ (pc + 3) lo rest) : rx_X p l e R s m args below meth c O H0 cells slots Q nL Φ pc lo (.int y :: .int x :: rest) :=
  fun H locs ls hP hS hl => lv_icmp_gt C.1 C.2.1 hd ht (fun h => kt h H locs ls hP hS hl) (fun h => kf h H locs ls hP hS hl)
theorem rx_icmp_le (C : rx_Cx p s m args meth c own cc nL ret) {x y : Int32} {off : Int} {tgt : Nat} (hd : decode cc pc = .ok (.if_icmp .le off, 3)) (ht : (pc : Int) + off = (tgt : Int))
    (kt : x ≤ y → rx_X p l e R s m args below meth c O H0 cells slots Q nL Φ tgt lo rest) (kf : ¬ x ≤ y → rx_X p l e R s m args below meth c O H0 cells slots Q nL Φ (pc + 3) lo rest) : rx_X p l e R s m args below meth c O H0 cells slots Q nL Φ pc lo (.int y :: .int x :: rest) :=
  fun H locs ls hP hS hl => lv_icmp_le C.1 C.2.1 hd ht (fun h => kt h H locs ls hP hS hl) (fun h => kf h H locs ls hP hS hl)
theorem rx_istore (C : rx_Cx p s m args meth c own cc nL ret) {j : Nat} {x : Int32} (hd : decode cc pc = .ok (.istore j, 2)) (hn : j < nL)
    (k : rx_X p l e R s m args below meth c O H0 cells slots Q nL Φ (pc + 2) ((j, .int x) :: lo) rest) : rx_X p l e R s m args below meth c O H0 cells slots Q nL Φ pc lo (.int x :: rest) := by
  intro H locs ls hP hS hl
  obtain ⟨lv, h1, h2⟩ := hl
  exact lv_istore C.1 C.2.1 hd h1 hn rfl (fun ls' h' => k H locs ls' hP hS (rx_has.put rfl h2 h'))
theorem rx_istore_n (C : rx_Cx p s m args meth c own cc nL ret) {j : Fin 4} {x : Int32} (hd : decode cc pc = .ok (.istore_n j, 1)) (hn : (j : Nat) < nL)
    (k : rx_X p l e R s m args below meth c O H0 cells slots Q nL Φ (pc + 1) (((j : Nat), .int x) :: lo) rest) : rx_X p l e R s m args below meth c O H0 cells slots Q nL Φ pc lo (.int x :: rest) := by
  intro H locs ls hP hS hl
  obtain ⟨lv, h1, h2⟩ := hl
  exact lv_istore_n C.1 C.2.1 hd rfl h1 hn rfl (fun ls' h' => k H locs ls' hP hS (rx_has.put rfl h2 h'))
theorem rx_astore (C : rx_Cx p s m args meth c own cc nL ret) {j : Nat} {x : Nat} (hd : decode cc pc = .ok (.astore j, 2)) (hn : j < nL)
    (k : rx_X p l e R s m args below meth c O H0 cells slots Q nL Φ (pc + 2) ((j, .ref x) :: lo) rest) : rx_X p l e R s m args below meth c O H0 cells slots Q nL Φ pc lo (.ref x :: rest) := by
  intro H locs ls hP hS hl
  obtain ⟨lv, h1, h2⟩ := hl
  exact lv_astore C.1 C.2.1 hd h1 hn rfl (fun ls' h' => k H locs ls' hP hS (rx_has.put rfl h2 h'))
theorem rx_astore_n (C : rx_Cx p s m args meth c own cc nL ret) {j : Fin 4} {x : Nat} (hd : decode cc pc = .ok (.astore_n j, 1)) (hn : (j : Nat) < nL)
    (k : rx_X p l e R s m args below meth c O H0 cells slots Q nL Φ (pc + 1) (((j : Nat), .ref x) :: lo) rest) : rx_X p l e R s m args below meth c O H0 cells slots Q nL Φ pc lo (.ref x :: rest) := by
  intro H locs ls hP hS hl
  obtain ⟨lv, h1, h2⟩ := hl
  exact lv_astore_n C.1 C.2.1 hd rfl h1 hn rfl (fun ls' h' => k H locs ls' hP hS (rx_has.put rfl h2 h'))
theorem rx_iinc (C : rx_Cx p s m args meth c own cc nL ret) {j : Nat} {n : Int} {x v : Int32} (hd : decode cc pc = .ok (.iinc j n, 3)) (hx : rx_lk lo j = some (.int x)) (hv : x + Int32.ofInt n = v) (hn : j < nL)
    (k : rx_X p l e R s m args below meth c O H0 cells slots Q nL Φ (pc + 3) ((j, .int v) :: lo) rest) : rx_X p l e R s m args below meth c O H0 cells slots Q nL Φ pc lo rest := by
  intro H locs ls hP hS hl
  obtain ⟨lv, h1, h2⟩ := hl
  obtain ⟨q, hq⟩ := List.getElem?_of_mem (h2 j _ hx).1
  exact lv_iinc C.1 C.2.1 hd h1 hq hv hn rfl (fun ls' h' => k H locs ls' hP hS (rx_has.put rfl h2 h'))
theorem rx_loc (C : rx_Cx p s m args meth c own cc nL ret) {lo' : List (Nat × Value)} (hw : ∀ q ∈ lo', rx_lk lo q.1 = some q.2) {st : List Value}
    (k : rx_X p l e R s m args below meth c O H0 cells slots Q nL Φ pc lo' st) : rx_X p l e R s m args below meth c O H0 cells slots Q nL Φ pc lo st :=
  fun H locs ls hP hS hl => k H locs ls hP hS (hl.weak hw)
theorem rx_tin (C : rx_Cx p s m args meth c own cc nL ret) {x v : Int32} (hx : x = v) {dflt low hi : Int} {offs : Array Int} {len : Nat} {off : Int} {tgt : Nat} (hd : decode cc pc = .ok (.tableswitch dflt low hi offs, len)) (h1 : ¬ v.toInt < low) (h2 : ¬ hi < v.toInt) (ho : offs[(v.toInt - low).toNat]? = some off) (ht : (pc : Int) + off = (tgt : Int))
    (k : rx_X p l e R s m args below meth c O H0 cells slots Q nL Φ tgt lo rest) : rx_X p l e R s m args below meth c O H0 cells slots Q nL Φ pc lo (.int x :: rest) := by
  subst hx
  exact fun H locs ls hP hS hl => lv_tableIn C.1 C.2.1 hd h1 h2 ho ht (k H locs ls hP hS hl)
theorem rx_tout (C : rx_Cx p s m args meth c own cc nL ret) {x : Int32} {dflt low hi : Int} {offs : Array Int} {len : Nat} {tgt : Nat} (hd : decode cc pc = .ok (.tableswitch dflt low hi offs, len)) (h : x.toInt < low ∨ hi < x.toInt) (ht : (pc : Int) + dflt = (tgt : Int))
    (k : rx_X p l e R s m args below meth c O H0 cells slots Q nL Φ tgt lo rest) : rx_X p l e R s m args below meth c O H0 cells slots Q nL Φ pc lo (.int x :: rest) :=
  fun H locs ls hP hS hl => lv_tableOut C.1 C.2.1 hd h ht (k H locs ls hP hS hl)
theorem rx_tout4 (C : rx_Cx p s m args meth c own cc nL ret) {x : Int32} (h0 : ¬ x = 0) (h1 : ¬ x = 1) (h2 : ¬ x = 2) (h3 : ¬ x = 3) {dflt : Int} {offs : Array Int} {len : Nat} {tgt : Nat} (hd : decode cc pc = .ok (.tableswitch dflt 0 3 offs, len)) (ht : (pc : Int) + dflt = (tgt : Int))
    (k : rx_X p l e R s m args below meth c O H0 cells slots Q nL Φ tgt lo rest) : rx_X p l e R s m args below meth c O H0 cells slots Q nL Φ pc lo (.int x :: rest) := by
  refine rx_tout C hd ?_ ht k
  rw [rx_eqI] at h0 h1 h2 h3
  have e0 : (0 : Int32).toInt = 0 := rfl
  have e1 : (1 : Int32).toInt = 1 := rfl
  have e2 : (2 : Int32).toInt = 2 := rfl
  have e3 : (3 : Int32).toInt = 3 := rfl
  omega
end RXB
/-! the cells of the system, by number: 0 net, 1 wire, 2 rows, 3..43 messages, 44 the arrived one, 45 mobiles, 46 47 mobile, 48 home, 49..52 its rows, 53 foreign, 54 58 62 agents with three rows each behind them, 66 correspondent, 67..70 its rows, 71 the reference, 72..95 its rows -/
def rx_msg (s : Nat → Int32) : va_E := .inr (1, [.int (s 0), .int (s 1), .int (s 2), .int (s 3), .int (s 4), .int (s 5), .int (s 6), .int (s 7), .int (s 8)])
def rx_mob (ad : Nat → Nat) (s : Nat → Int32) : va_E := .inr (3, [.int (s 0), .int (s 1), .ref (ad 1), .int (s 3), .int (s 4), .int (s 5), .int (s 6), .int (s 7), .int (s 8), .int (s 9), .int (s 10), .int (s 11), .int (s 12), .int (s 13)])
def rx_fa (ad : Nat → Nat) (i : Nat) (s : Nat → Int32) : va_E := .inr (5, [.int (s 0), .int (s 1), .ref (ad 1), .ref (ad (i + 1)), .ref (ad (i + 2)), .ref (ad (i + 3))])
def rx_ia (ca : Nat → ClassId) (n : Nat) (s : Nat → Int32) : va_E := .inl (ca 0, n, .inl s)
def rx_qa (ca : ClassId) (n : Nat) (f : Nat → Option Nat) : va_E := .inl (ca, n, .inr (.inr (.inr (.inr f))))
def rx_len (i : Nat) : Nat := if i = 72 then 369 else if i = 73 then 9 else if i < 89 then 2 else if i < 92 then 8 else 2
def rx_mo (ad : Nat → Nat) (s : Nat → Int32) : va_E := .inr (7, [.int (s 0), .int (s 1), .int (s 2), .int (s 3), .int (s 4), .ref (ad 72), .ref (ad 73), .ref (ad 74), .ref (ad 75), .ref (ad 76), .ref (ad 77), .ref (ad 78), .ref (ad 79), .ref (ad 80), .ref (ad 81), .ref (ad 82), .ref (ad 83), .ref (ad 84), .ref (ad 85), .ref (ad 86), .ref (ad 87), .ref (ad 88), .ref (ad 89), .ref (ad 90), .ref (ad 91), .ref (ad 92), .ref (ad 93), .ref (ad 94), .ref (ad 95)])
def rx_E (ad : Nat → Nat) (ca : Nat → ClassId) (i : Nat) (s : Nat → Int32) : va_E :=
  if i = 0 then .inr (0, [.ref (ad 1), .ref (ad 44), .ref (ad 45), .ref (ad 48), .ref (ad 53), .ref (ad 66)])
  else if i = 1 then .inr (2, [.ref (ad 2), .int (s 1), .int (s 2)])
  else if i = 2 then rx_qa (ca 1) 41 (fun k => some (ad (2 + (s k).toNatClampNeg)))
  else if i < 45 then rx_msg s
  else if i = 45 then rx_qa (ca 2) 2 (fun k => some (ad (46 + k)))
  else if i < 48 then rx_mob ad s
  else if i = 48 then .inr (4, [.int (s 0), .ref (ad 1), .ref (ad 49), .ref (ad 50), .ref (ad 51), .ref (ad 52)])
  else if i < 53 then rx_ia ca 2 s
  else if i = 53 then rx_qa (ca 3) 3 (fun k => some (ad (54 + 4 * k)))
  else if i < 66 then (if (i - 54) % 4 = 0 then rx_fa ad i s else rx_ia ca 2 s)
  else if i = 66 then .inr (6, [.ref (ad 1), .ref (ad 67), .ref (ad 68), .ref (ad 69), .ref (ad 70)])
  else if i < 71 then rx_ia ca 2 s
  else if i = 71 then rx_mo ad s
  else rx_ia ca (rx_len i) s
theorem rx_E_msg {ad : Nat → Nat} {ca : Nat → ClassId} {i : Nat} (h : 3 ≤ i ∧ i < 45) (s : Nat → Int32) : rx_E ad ca i s = rx_msg s := by
  unfold rx_E
  rw [if_neg (by omega), if_neg (by omega), if_neg (by omega), if_pos (by omega)]
theorem rx_E_mob {ad : Nat → Nat} {ca : Nat → ClassId} {j : Nat} (h : j < 2) (s : Nat → Int32) : rx_E ad ca (46 + j) s = rx_mob ad s := by
  unfold rx_E
  rw [if_neg (by omega), if_neg (by omega), if_neg (by omega), if_neg (by omega), if_neg (by omega), if_pos (by omega)]
theorem rx_E_fa {ad : Nat → Nat} {ca : Nat → ClassId} {a : Nat} (h : a < 3) (s : Nat → Int32) : rx_E ad ca (54 + 4 * a) s = rx_fa ad (54 + 4 * a) s := by
  unfold rx_E
  rw [if_neg (by omega), if_neg (by omega), if_neg (by omega), if_neg (by omega), if_neg (by omega), if_neg (by omega), if_neg (by omega), if_neg (by omega), if_neg (by omega), if_pos (by omega), if_pos (by omega)]
theorem rx_E_fr {ad : Nat → Nat} {ca : Nat → ClassId} {a t : Nat} (h : a < 3) (ht : 1 ≤ t ∧ t ≤ 3) (s : Nat → Int32) : rx_E ad ca (54 + 4 * a + t) s = rx_ia ca 2 s := by
  unfold rx_E
  rw [if_neg (by omega), if_neg (by omega), if_neg (by omega), if_neg (by omega), if_neg (by omega), if_neg (by omega), if_neg (by omega), if_neg (by omega), if_neg (by omega), if_pos (by omega), if_neg (by omega)]
/-- the place of the whole system at base b -/
def rx_fin (D : va_G) (b : Nat) (ca : Nat → ClassId) : rGT := (D, fun i => b + i, ca, fun q => b ≤ q, rx_E (fun i => b + i) ca, 96)
theorem rx_fin_D (D : va_G) (b : Nat) (ca : Nat → ClassId) : rx_D (rx_fin D b ca) := ⟨fun i j _ _ h => by
    have h : b + i = b + j := h
    omega, fun i _ => by
    show b ≤ b + i
    omega⟩
theorem rx_lt {D : va_G} {b : Nat} {ca : Nat → ClassId} {i : Nat} (h : i < 96) : i < rg_N (rx_fin D b ca) := h
theorem rx_v02 : vp_in 0 2 := vp_in_iff.mpr (by decide)
theorem rx_v12 : vp_in 1 2 := vp_in_iff.mpr (by decide)
theorem rx_vn {x : Int32} {n : Nat} (h : vp_in x n) : x.toNatClampNeg < n := Nat.not_le.mp fun q => h (Or.inr q)
theorem rx_z {c : Prop} (i : Decidable c) : (@ite Int32 c i 0 1) = 0 ∨ (@ite Int32 c i 0 1) = 1 := by
  by_cases h : c
  · exact Or.inl (if_pos h)
  · exact Or.inr (if_neg h)
section RXC
variable {p : Program} {l : Launch} {e : Env} {R : Room} {s : State} {m : MethodId} {args : Array Value} {below : List Frame} {meth : Method} {c : Code} {H0 : Heap} {cells slots : Nat} {Q : State → Prop} {nL : Nat} {σ σ' : rMem} {lo : List (Nat × Value)} {rest : List Value} {own : String} {cc : ByteArray} {ret : Option FieldType} {pc : Nat} (D : va_G) (b : Nat) (ca : Nat → ClassId)
theorem rx_ald_mobs {x : Int32} (C : rx_Cw p s m args meth c own cc nL ret (rx_fin D b ca)) (hd : decode cc pc = .ok (.aaload, 1)) (hin : vp_in x 2)
    (kk : rx_X p l e R s m args below meth c (rg_O (rx_fin D b ca)) H0 cells slots Q nL (rx_m (rx_fin D b ca) σ) (pc + 1) lo (.ref (rg_A (rx_fin D b ca) (46 + x.toNatClampNeg)) :: rest)) : rx_X p l e R s m args below meth c (rg_O (rx_fin D b ca)) H0 cells slots Q nL (rx_m (rx_fin D b ca) σ) pc lo (.int x :: .ref (rg_A (rx_fin D b ca) 45) :: rest) :=
  rx_aald (i := 45) (t := 2) (n := 2) C hd (rx_lt (by decide)) rfl rfl hin rfl kk
theorem rx_ald_rows {x : Int32} (C : rx_Cw p s m args meth c own cc nL ret (rx_fin D b ca)) (hd : decode cc pc = .ok (.aaload, 1)) (hin : vp_in x 41)
    (kk : rx_X p l e R s m args below meth c (rg_O (rx_fin D b ca)) H0 cells slots Q nL (rx_m (rx_fin D b ca) σ) (pc + 1) lo (.ref (rg_A (rx_fin D b ca) (2 + (σ 2 x.toNatClampNeg).toNatClampNeg)) :: rest)) : rx_X p l e R s m args below meth c (rg_O (rx_fin D b ca)) H0 cells slots Q nL (rx_m (rx_fin D b ca) σ) pc lo (.int x :: .ref (rg_A (rx_fin D b ca) 2) :: rest) :=
  rx_aald (i := 2) (t := 1) (n := 41) C hd (rx_lt (by decide)) rfl rfl hin rfl kk
theorem rx_ald_fas {x : Int32} (C : rx_Cw p s m args meth c own cc nL ret (rx_fin D b ca)) (hd : decode cc pc = .ok (.aaload, 1)) (hin : vp_in x 3)
    (kk : rx_X p l e R s m args below meth c (rg_O (rx_fin D b ca)) H0 cells slots Q nL (rx_m (rx_fin D b ca) σ) (pc + 1) lo (.ref (rg_A (rx_fin D b ca) (54 + 4 * x.toNatClampNeg)) :: rest)) : rx_X p l e R s m args below meth c (rg_O (rx_fin D b ca)) H0 cells slots Q nL (rx_m (rx_fin D b ca) σ) pc lo (.int x :: .ref (rg_A (rx_fin D b ca) 53) :: rest) :=
  rx_aald (i := 53) (t := 3) (n := 3) C hd (rx_lt (by decide)) rfl rfl hin rfl kk
/-- a row of the wire is put into another place of it -/
theorem rx_ast_rows {x v : Int32} (C : rx_Cw p s m args meth c own cc nL ret (rx_fin D b ca)) (hd : decode cc pc = .ok (.aastore, 1)) (hin : vp_in x 41) (hv : 1 ≤ v.toInt ∧ v.toInt ≤ 41)
    (kk : rx_X p l e R s m args below meth c (rg_O (rx_fin D b ca)) H0 cells slots Q nL (rx_m (rx_fin D b ca) (rx_wr σ 2 x.toNatClampNeg v)) (pc + 1) lo rest) : rx_X p l e R s m args below meth c (rg_O (rx_fin D b ca)) H0 cells slots Q nL (rx_m (rx_fin D b ca) σ) pc lo (.ref (rg_A (rx_fin D b ca) (2 + v.toNatClampNeg)) :: .int x :: .ref (rg_A (rx_fin D b ca) 2) :: rest) := by
  have h2 := rx_cn (x := v) (by omega)
  have hq : 3 ≤ 2 + v.toNatClampNeg ∧ 2 + v.toNatClampNeg < 45 := by omega
  refine rx_aast (i := 2) (t := 1) (n := 41) (qk := 2 + v.toNatClampNeg) (x := v) (r := (R_Msg, F_Msg, 9)) C hd (rx_lt (by decide)) rfl rfl (rx_lt (by omega)) (rx_E_msg hq _) rfl hin ?_ (rx_SI_row hv) kk
  show rx_qa (ca 1) 41 _ = rx_qa (ca 1) 41 (fun k => some (b + (2 + (upd (σ 2) x.toNatClampNeg v k).toNatClampNeg)))
  congr 1
  funext k
  by_cases hk : k = x.toNatClampNeg
  · subst hk
    simp [va_up, upd, rx_fin]
  · simp [va_up, upd, hk, rx_fin]
end RXC
theorem rx_iM0 : rx_iM 0 := ⟨by decide, by decide⟩
theorem rx_iM1 : rx_iM 1 := ⟨by decide, by decide⟩
def rx_sub : List (Nat × Value) → List (Nat × Value) → Prop
  | [], _ => True
  | q :: t, lo => rx_lk lo q.1 = some q.2 ∧ rx_sub t lo
theorem rx_sub_all : ∀ {lo' lo : List (Nat × Value)}, rx_sub lo' lo → ∀ q ∈ lo', rx_lk lo q.1 = some q.2
  | [], _, _, q, hq => absurd hq List.not_mem_nil
  | a :: t, lo, h, q, hq => by
    rcases List.mem_cons.mp hq with rfl | hq
    · exact h.1
    · exact rx_sub_all h.2 q hq
end
section
theorem d_Net_isWithin_0 : decode b_Net_isWithin 0 = .ok (.iload_n 0, 1) := by decide +kernel
theorem d_Net_isWithin_1 : decode b_Net_isWithin 1 = .ok (.iload_n 1, 1) := by decide +kernel
theorem d_Net_isWithin_2 : decode b_Net_isWithin 2 = .ok (.if_icmp .lt 12, 3) := by decide +kernel
theorem d_Net_isWithin_5 : decode b_Net_isWithin 5 = .ok (.iload_n 0, 1) := by decide +kernel
theorem d_Net_isWithin_6 : decode b_Net_isWithin 6 = .ok (.iload_n 2, 1) := by decide +kernel
theorem d_Net_isWithin_7 : decode b_Net_isWithin 7 = .ok (.if_icmp .gt 7, 3) := by decide +kernel
theorem d_Net_isWithin_10 : decode b_Net_isWithin 10 = .ok (.iconst 1, 1) := by decide +kernel
theorem d_Net_isWithin_11 : decode b_Net_isWithin 11 = .ok (.goto 4, 3) := by decide +kernel
theorem d_Net_isWithin_14 : decode b_Net_isWithin 14 = .ok (.iconst 0, 1) := by decide +kernel
theorem d_Net_isWithin_15 : decode b_Net_isWithin 15 = .ok (.ireturn, 1) := by decide +kernel
theorem d_Net_isMobile_0 : decode b_Net_isMobile 0 = .ok (.iload_n 0, 1) := by decide +kernel
theorem d_Net_isMobile_1 : decode b_Net_isMobile 1 = .ok (.iconst 0, 1) := by decide +kernel
theorem d_Net_isMobile_2 : decode b_Net_isMobile 2 = .ok (.iconst 1, 1) := by decide +kernel
theorem d_Net_isMobile_3 : decode b_Net_isMobile 3 = .ok (.invokestatic 11, 3) := by decide +kernel
theorem d_Net_isMobile_6 : decode b_Net_isMobile 6 = .ok (.ireturn, 1) := by decide +kernel
theorem d_Net_isAgent_0 : decode b_Net_isAgent 0 = .ok (.iload_n 0, 1) := by decide +kernel
theorem d_Net_isAgent_1 : decode b_Net_isAgent 1 = .ok (.iconst 0, 1) := by decide +kernel
theorem d_Net_isAgent_2 : decode b_Net_isAgent 2 = .ok (.iconst 3, 1) := by decide +kernel
theorem d_Net_isAgent_3 : decode b_Net_isAgent 3 = .ok (.invokestatic 11, 3) := by decide +kernel
theorem d_Net_isAgent_6 : decode b_Net_isAgent 6 = .ok (.ireturn, 1) := by decide +kernel
theorem d_Msg_stir_0 : decode b_Msg_stir 0 = .ok (.iload_n 0, 1) := by decide +kernel
theorem d_Msg_stir_1 : decode b_Msg_stir 1 = .ok (.iload_n 1, 1) := by decide +kernel
theorem d_Msg_stir_2 : decode b_Msg_stir 2 = .ok (.ixor, 1) := by decide +kernel
theorem d_Msg_stir_3 : decode b_Msg_stir 3 = .ok (.ldc 45, 2) := by decide +kernel
theorem d_Msg_stir_5 : decode b_Msg_stir 5 = .ok (.imul, 1) := by decide +kernel
theorem d_Msg_stir_6 : decode b_Msg_stir 6 = .ok (.istore_n 2, 1) := by decide +kernel
theorem d_Msg_stir_7 : decode b_Msg_stir 7 = .ok (.iload_n 2, 1) := by decide +kernel
theorem d_Msg_stir_8 : decode b_Msg_stir 8 = .ok (.iload_n 2, 1) := by decide +kernel
theorem d_Msg_stir_9 : decode b_Msg_stir 9 = .ok (.bipush 15, 2) := by decide +kernel
theorem d_Msg_stir_11 : decode b_Msg_stir 11 = .ok (.iushr, 1) := by decide +kernel
theorem d_Msg_stir_12 : decode b_Msg_stir 12 = .ok (.ixor, 1) := by decide +kernel
theorem d_Msg_stir_13 : decode b_Msg_stir 13 = .ok (.ireturn, 1) := by decide +kernel
theorem d_Msg_begin_0 : decode b_Msg_begin 0 = .ok (.aload_n 0, 1) := by decide +kernel
theorem d_Msg_begin_1 : decode b_Msg_begin 1 = .ok (.iload_n 1, 1) := by decide +kernel
theorem d_Msg_begin_2 : decode b_Msg_begin 2 = .ok (.putfield 9, 3) := by decide +kernel
theorem d_Msg_begin_5 : decode b_Msg_begin 5 = .ok (.aload_n 0, 1) := by decide +kernel
theorem d_Msg_begin_6 : decode b_Msg_begin 6 = .ok (.iload_n 2, 1) := by decide +kernel
theorem d_Msg_begin_7 : decode b_Msg_begin 7 = .ok (.putfield 15, 3) := by decide +kernel
theorem d_Msg_begin_10 : decode b_Msg_begin 10 = .ok (.aload_n 0, 1) := by decide +kernel
theorem d_Msg_begin_11 : decode b_Msg_begin 11 = .ok (.iload_n 3, 1) := by decide +kernel
theorem d_Msg_begin_12 : decode b_Msg_begin 12 = .ok (.putfield 18, 3) := by decide +kernel
theorem d_Msg_begin_15 : decode b_Msg_begin 15 = .ok (.aload_n 0, 1) := by decide +kernel
theorem d_Msg_begin_16 : decode b_Msg_begin 16 = .ok (.iload 4, 2) := by decide +kernel
theorem d_Msg_begin_18 : decode b_Msg_begin 18 = .ok (.putfield 21, 3) := by decide +kernel
theorem d_Msg_begin_21 : decode b_Msg_begin 21 = .ok (.aload_n 0, 1) := by decide +kernel
theorem d_Msg_begin_22 : decode b_Msg_begin 22 = .ok (.iconst (-1), 1) := by decide +kernel
theorem d_Msg_begin_23 : decode b_Msg_begin 23 = .ok (.putfield 24, 3) := by decide +kernel
theorem d_Msg_begin_26 : decode b_Msg_begin 26 = .ok (.aload_n 0, 1) := by decide +kernel
theorem d_Msg_begin_27 : decode b_Msg_begin 27 = .ok (.iconst 0, 1) := by decide +kernel
theorem d_Msg_begin_28 : decode b_Msg_begin 28 = .ok (.putfield 27, 3) := by decide +kernel
theorem d_Msg_begin_31 : decode b_Msg_begin 31 = .ok (.aload_n 0, 1) := by decide +kernel
theorem d_Msg_begin_32 : decode b_Msg_begin 32 = .ok (.iconst 0, 1) := by decide +kernel
theorem d_Msg_begin_33 : decode b_Msg_begin 33 = .ok (.putfield 30, 3) := by decide +kernel
theorem d_Msg_begin_36 : decode b_Msg_begin 36 = .ok (.aload_n 0, 1) := by decide +kernel
theorem d_Msg_begin_37 : decode b_Msg_begin 37 = .ok (.iconst 0, 1) := by decide +kernel
theorem d_Msg_begin_38 : decode b_Msg_begin 38 = .ok (.putfield 33, 3) := by decide +kernel
theorem d_Msg_begin_41 : decode b_Msg_begin 41 = .ok (.aload_n 0, 1) := by decide +kernel
theorem d_Msg_begin_42 : decode b_Msg_begin 42 = .ok (.iconst 0, 1) := by decide +kernel
theorem d_Msg_begin_43 : decode b_Msg_begin 43 = .ok (.putfield 36, 3) := by decide +kernel
theorem d_Msg_begin_46 : decode b_Msg_begin 46 = .ok (.return_, 1) := by decide +kernel
theorem d_Msg_copyFrom_0 : decode b_Msg_copyFrom 0 = .ok (.aload_n 0, 1) := by decide +kernel
theorem d_Msg_copyFrom_1 : decode b_Msg_copyFrom 1 = .ok (.aload_n 1, 1) := by decide +kernel
theorem d_Msg_copyFrom_2 : decode b_Msg_copyFrom 2 = .ok (.getfield 9, 3) := by decide +kernel
theorem d_Msg_copyFrom_5 : decode b_Msg_copyFrom 5 = .ok (.putfield 9, 3) := by decide +kernel
theorem d_Msg_copyFrom_8 : decode b_Msg_copyFrom 8 = .ok (.aload_n 0, 1) := by decide +kernel
theorem d_Msg_copyFrom_9 : decode b_Msg_copyFrom 9 = .ok (.aload_n 1, 1) := by decide +kernel
theorem d_Msg_copyFrom_10 : decode b_Msg_copyFrom 10 = .ok (.getfield 15, 3) := by decide +kernel
theorem d_Msg_copyFrom_13 : decode b_Msg_copyFrom 13 = .ok (.putfield 15, 3) := by decide +kernel
theorem d_Msg_copyFrom_16 : decode b_Msg_copyFrom 16 = .ok (.aload_n 0, 1) := by decide +kernel
theorem d_Msg_copyFrom_17 : decode b_Msg_copyFrom 17 = .ok (.aload_n 1, 1) := by decide +kernel
theorem d_Msg_copyFrom_18 : decode b_Msg_copyFrom 18 = .ok (.getfield 24, 3) := by decide +kernel
theorem d_Msg_copyFrom_21 : decode b_Msg_copyFrom 21 = .ok (.putfield 24, 3) := by decide +kernel
theorem d_Msg_copyFrom_24 : decode b_Msg_copyFrom 24 = .ok (.aload_n 0, 1) := by decide +kernel
theorem d_Msg_copyFrom_25 : decode b_Msg_copyFrom 25 = .ok (.aload_n 1, 1) := by decide +kernel
theorem d_Msg_copyFrom_26 : decode b_Msg_copyFrom 26 = .ok (.getfield 18, 3) := by decide +kernel
theorem d_Msg_copyFrom_29 : decode b_Msg_copyFrom 29 = .ok (.putfield 18, 3) := by decide +kernel
theorem d_Msg_copyFrom_32 : decode b_Msg_copyFrom 32 = .ok (.aload_n 0, 1) := by decide +kernel
theorem d_Msg_copyFrom_33 : decode b_Msg_copyFrom 33 = .ok (.aload_n 1, 1) := by decide +kernel
theorem d_Msg_copyFrom_34 : decode b_Msg_copyFrom 34 = .ok (.getfield 21, 3) := by decide +kernel
theorem d_Msg_copyFrom_37 : decode b_Msg_copyFrom 37 = .ok (.putfield 21, 3) := by decide +kernel
theorem d_Msg_copyFrom_40 : decode b_Msg_copyFrom 40 = .ok (.aload_n 0, 1) := by decide +kernel
theorem d_Msg_copyFrom_41 : decode b_Msg_copyFrom 41 = .ok (.aload_n 1, 1) := by decide +kernel
theorem d_Msg_copyFrom_42 : decode b_Msg_copyFrom 42 = .ok (.getfield 27, 3) := by decide +kernel
theorem d_Msg_copyFrom_45 : decode b_Msg_copyFrom 45 = .ok (.putfield 27, 3) := by decide +kernel
theorem d_Msg_copyFrom_48 : decode b_Msg_copyFrom 48 = .ok (.aload_n 0, 1) := by decide +kernel
theorem d_Msg_copyFrom_49 : decode b_Msg_copyFrom 49 = .ok (.aload_n 1, 1) := by decide +kernel
theorem d_Msg_copyFrom_50 : decode b_Msg_copyFrom 50 = .ok (.getfield 30, 3) := by decide +kernel
theorem d_Msg_copyFrom_53 : decode b_Msg_copyFrom 53 = .ok (.putfield 30, 3) := by decide +kernel
theorem d_Msg_copyFrom_56 : decode b_Msg_copyFrom 56 = .ok (.aload_n 0, 1) := by decide +kernel
theorem d_Msg_copyFrom_57 : decode b_Msg_copyFrom 57 = .ok (.aload_n 1, 1) := by decide +kernel
theorem d_Msg_copyFrom_58 : decode b_Msg_copyFrom 58 = .ok (.getfield 33, 3) := by decide +kernel
theorem d_Msg_copyFrom_61 : decode b_Msg_copyFrom 61 = .ok (.putfield 33, 3) := by decide +kernel
theorem d_Msg_copyFrom_64 : decode b_Msg_copyFrom 64 = .ok (.aload_n 0, 1) := by decide +kernel
theorem d_Msg_copyFrom_65 : decode b_Msg_copyFrom 65 = .ok (.aload_n 1, 1) := by decide +kernel
theorem d_Msg_copyFrom_66 : decode b_Msg_copyFrom 66 = .ok (.getfield 36, 3) := by decide +kernel
theorem d_Msg_copyFrom_69 : decode b_Msg_copyFrom 69 = .ok (.putfield 36, 3) := by decide +kernel
theorem d_Msg_copyFrom_72 : decode b_Msg_copyFrom 72 = .ok (.return_, 1) := by decide +kernel
theorem d_Msg_summary_0 : decode b_Msg_summary 0 = .ok (.ldc 39, 2) := by decide +kernel
theorem d_Msg_summary_2 : decode b_Msg_summary 2 = .ok (.aload_n 0, 1) := by decide +kernel
theorem d_Msg_summary_3 : decode b_Msg_summary 3 = .ok (.getfield 9, 3) := by decide +kernel
theorem d_Msg_summary_6 : decode b_Msg_summary 6 = .ok (.imul, 1) := by decide +kernel
theorem d_Msg_summary_7 : decode b_Msg_summary 7 = .ok (.ldc 40, 2) := by decide +kernel
theorem d_Msg_summary_9 : decode b_Msg_summary 9 = .ok (.aload_n 0, 1) := by decide +kernel
theorem d_Msg_summary_10 : decode b_Msg_summary 10 = .ok (.getfield 15, 3) := by decide +kernel
theorem d_Msg_summary_13 : decode b_Msg_summary 13 = .ok (.imul, 1) := by decide +kernel
theorem d_Msg_summary_14 : decode b_Msg_summary 14 = .ok (.iadd, 1) := by decide +kernel
theorem d_Msg_summary_15 : decode b_Msg_summary 15 = .ok (.sipush 10000, 3) := by decide +kernel
theorem d_Msg_summary_18 : decode b_Msg_summary 18 = .ok (.aload_n 0, 1) := by decide +kernel
theorem d_Msg_summary_19 : decode b_Msg_summary 19 = .ok (.getfield 18, 3) := by decide +kernel
theorem d_Msg_summary_22 : decode b_Msg_summary 22 = .ok (.imul, 1) := by decide +kernel
theorem d_Msg_summary_23 : decode b_Msg_summary 23 = .ok (.iadd, 1) := by decide +kernel
theorem d_Msg_summary_24 : decode b_Msg_summary 24 = .ok (.aload_n 0, 1) := by decide +kernel
theorem d_Msg_summary_25 : decode b_Msg_summary 25 = .ok (.getfield 21, 3) := by decide +kernel
theorem d_Msg_summary_28 : decode b_Msg_summary 28 = .ok (.iadd, 1) := by decide +kernel
theorem d_Msg_summary_29 : decode b_Msg_summary 29 = .ok (.ireturn, 1) := by decide +kernel
theorem d_Msg_requestSeal_0 : decode b_Msg_requestSeal 0 = .ok (.iload_n 1, 1) := by decide +kernel
theorem d_Msg_requestSeal_1 : decode b_Msg_requestSeal 1 = .ok (.iconst 2, 1) := by decide +kernel
theorem d_Msg_requestSeal_2 : decode b_Msg_requestSeal 2 = .ok (.invokestatic 41, 3) := by decide +kernel
theorem d_Msg_requestSeal_5 : decode b_Msg_requestSeal 5 = .ok (.istore_n 2, 1) := by decide +kernel
theorem d_Msg_requestSeal_6 : decode b_Msg_requestSeal 6 = .ok (.iload_n 2, 1) := by decide +kernel
theorem d_Msg_requestSeal_7 : decode b_Msg_requestSeal 7 = .ok (.aload_n 0, 1) := by decide +kernel
theorem d_Msg_requestSeal_8 : decode b_Msg_requestSeal 8 = .ok (.getfield 18, 3) := by decide +kernel
theorem d_Msg_requestSeal_11 : decode b_Msg_requestSeal 11 = .ok (.invokestatic 41, 3) := by decide +kernel
theorem d_Msg_requestSeal_14 : decode b_Msg_requestSeal 14 = .ok (.istore_n 2, 1) := by decide +kernel
theorem d_Msg_requestSeal_15 : decode b_Msg_requestSeal 15 = .ok (.iload_n 2, 1) := by decide +kernel
theorem d_Msg_requestSeal_16 : decode b_Msg_requestSeal 16 = .ok (.aload_n 0, 1) := by decide +kernel
theorem d_Msg_requestSeal_17 : decode b_Msg_requestSeal 17 = .ok (.getfield 27, 3) := by decide +kernel
theorem d_Msg_requestSeal_20 : decode b_Msg_requestSeal 20 = .ok (.invokestatic 41, 3) := by decide +kernel
theorem d_Msg_requestSeal_23 : decode b_Msg_requestSeal 23 = .ok (.istore_n 2, 1) := by decide +kernel
theorem d_Msg_requestSeal_24 : decode b_Msg_requestSeal 24 = .ok (.iload_n 2, 1) := by decide +kernel
theorem d_Msg_requestSeal_25 : decode b_Msg_requestSeal 25 = .ok (.aload_n 0, 1) := by decide +kernel
theorem d_Msg_requestSeal_26 : decode b_Msg_requestSeal 26 = .ok (.getfield 33, 3) := by decide +kernel
theorem d_Msg_requestSeal_29 : decode b_Msg_requestSeal 29 = .ok (.invokestatic 41, 3) := by decide +kernel
theorem d_Msg_requestSeal_32 : decode b_Msg_requestSeal 32 = .ok (.istore_n 2, 1) := by decide +kernel
theorem d_Msg_requestSeal_33 : decode b_Msg_requestSeal 33 = .ok (.iload_n 2, 1) := by decide +kernel
theorem d_Msg_requestSeal_34 : decode b_Msg_requestSeal 34 = .ok (.aload_n 0, 1) := by decide +kernel
theorem d_Msg_requestSeal_35 : decode b_Msg_requestSeal 35 = .ok (.getfield 21, 3) := by decide +kernel
theorem d_Msg_requestSeal_38 : decode b_Msg_requestSeal 38 = .ok (.invokestatic 41, 3) := by decide +kernel
theorem d_Msg_requestSeal_41 : decode b_Msg_requestSeal 41 = .ok (.ireturn, 1) := by decide +kernel
theorem d_Msg_replySeal_0 : decode b_Msg_replySeal 0 = .ok (.iload_n 1, 1) := by decide +kernel
theorem d_Msg_replySeal_1 : decode b_Msg_replySeal 1 = .ok (.iconst 3, 1) := by decide +kernel
theorem d_Msg_replySeal_2 : decode b_Msg_replySeal 2 = .ok (.invokestatic 41, 3) := by decide +kernel
theorem d_Msg_replySeal_5 : decode b_Msg_replySeal 5 = .ok (.istore_n 2, 1) := by decide +kernel
theorem d_Msg_replySeal_6 : decode b_Msg_replySeal 6 = .ok (.iload_n 2, 1) := by decide +kernel
theorem d_Msg_replySeal_7 : decode b_Msg_replySeal 7 = .ok (.aload_n 0, 1) := by decide +kernel
theorem d_Msg_replySeal_8 : decode b_Msg_replySeal 8 = .ok (.getfield 18, 3) := by decide +kernel
theorem d_Msg_replySeal_11 : decode b_Msg_replySeal 11 = .ok (.invokestatic 41, 3) := by decide +kernel
theorem d_Msg_replySeal_14 : decode b_Msg_replySeal 14 = .ok (.istore_n 2, 1) := by decide +kernel
theorem d_Msg_replySeal_15 : decode b_Msg_replySeal 15 = .ok (.iload_n 2, 1) := by decide +kernel
theorem d_Msg_replySeal_16 : decode b_Msg_replySeal 16 = .ok (.aload_n 0, 1) := by decide +kernel
theorem d_Msg_replySeal_17 : decode b_Msg_replySeal 17 = .ok (.getfield 27, 3) := by decide +kernel
theorem d_Msg_replySeal_20 : decode b_Msg_replySeal 20 = .ok (.invokestatic 41, 3) := by decide +kernel
theorem d_Msg_replySeal_23 : decode b_Msg_replySeal 23 = .ok (.istore_n 2, 1) := by decide +kernel
theorem d_Msg_replySeal_24 : decode b_Msg_replySeal 24 = .ok (.iload_n 2, 1) := by decide +kernel
theorem d_Msg_replySeal_25 : decode b_Msg_replySeal 25 = .ok (.aload_n 0, 1) := by decide +kernel
theorem d_Msg_replySeal_26 : decode b_Msg_replySeal 26 = .ok (.getfield 30, 3) := by decide +kernel
theorem d_Msg_replySeal_29 : decode b_Msg_replySeal 29 = .ok (.invokestatic 41, 3) := by decide +kernel
theorem d_Msg_replySeal_32 : decode b_Msg_replySeal 32 = .ok (.istore_n 2, 1) := by decide +kernel
theorem d_Msg_replySeal_33 : decode b_Msg_replySeal 33 = .ok (.iload_n 2, 1) := by decide +kernel
theorem d_Msg_replySeal_34 : decode b_Msg_replySeal 34 = .ok (.aload_n 0, 1) := by decide +kernel
theorem d_Msg_replySeal_35 : decode b_Msg_replySeal 35 = .ok (.getfield 33, 3) := by decide +kernel
theorem d_Msg_replySeal_38 : decode b_Msg_replySeal 38 = .ok (.invokestatic 41, 3) := by decide +kernel
theorem d_Msg_replySeal_41 : decode b_Msg_replySeal 41 = .ok (.istore_n 2, 1) := by decide +kernel
theorem d_Msg_replySeal_42 : decode b_Msg_replySeal 42 = .ok (.iload_n 2, 1) := by decide +kernel
theorem d_Msg_replySeal_43 : decode b_Msg_replySeal 43 = .ok (.aload_n 0, 1) := by decide +kernel
theorem d_Msg_replySeal_44 : decode b_Msg_replySeal 44 = .ok (.getfield 21, 3) := by decide +kernel
theorem d_Msg_replySeal_47 : decode b_Msg_replySeal 47 = .ok (.invokestatic 41, 3) := by decide +kernel
theorem d_Msg_replySeal_50 : decode b_Msg_replySeal 50 = .ok (.ireturn, 1) := by decide +kernel
theorem d_Wire_holds_0 : decode b_Wire_holds 0 = .ok (.iload_n 1, 1) := by decide +kernel
theorem d_Wire_holds_1 : decode b_Wire_holds 1 = .ok (.ifCond .lt 15, 3) := by decide +kernel
theorem d_Wire_holds_4 : decode b_Wire_holds 4 = .ok (.iload_n 1, 1) := by decide +kernel
theorem d_Wire_holds_5 : decode b_Wire_holds 5 = .ok (.aload_n 0, 1) := by decide +kernel
theorem d_Wire_holds_6 : decode b_Wire_holds 6 = .ok (.getfield 18, 3) := by decide +kernel
theorem d_Wire_holds_9 : decode b_Wire_holds 9 = .ok (.if_icmp .ge 7, 3) := by decide +kernel
theorem d_Wire_holds_12 : decode b_Wire_holds 12 = .ok (.iconst 1, 1) := by decide +kernel
theorem d_Wire_holds_13 : decode b_Wire_holds 13 = .ok (.goto 4, 3) := by decide +kernel
theorem d_Wire_holds_16 : decode b_Wire_holds 16 = .ok (.iconst 0, 1) := by decide +kernel
theorem d_Wire_holds_17 : decode b_Wire_holds 17 = .ok (.ireturn, 1) := by decide +kernel
theorem d_Wire_isFull_0 : decode b_Wire_isFull 0 = .ok (.aload_n 0, 1) := by decide +kernel
theorem d_Wire_isFull_1 : decode b_Wire_isFull 1 = .ok (.getfield 18, 3) := by decide +kernel
theorem d_Wire_isFull_4 : decode b_Wire_isFull 4 = .ok (.bipush 40, 2) := by decide +kernel
theorem d_Wire_isFull_6 : decode b_Wire_isFull 6 = .ok (.if_icmp .lt 7, 3) := by decide +kernel
theorem d_Wire_isFull_9 : decode b_Wire_isFull 9 = .ok (.iconst 1, 1) := by decide +kernel
theorem d_Wire_isFull_10 : decode b_Wire_isFull 10 = .ok (.goto 4, 3) := by decide +kernel
theorem d_Wire_isFull_13 : decode b_Wire_isFull 13 = .ok (.iconst 0, 1) := by decide +kernel
theorem d_Wire_isFull_14 : decode b_Wire_isFull 14 = .ok (.ireturn, 1) := by decide +kernel
theorem d_Wire_nextRow_0 : decode b_Wire_nextRow 0 = .ok (.aload_n 0, 1) := by decide +kernel
theorem d_Wire_nextRow_1 : decode b_Wire_nextRow 1 = .ok (.invokevirtual 22, 3) := by decide +kernel
theorem d_Wire_nextRow_4 : decode b_Wire_nextRow 4 = .ok (.ifCond .eq 11, 3) := by decide +kernel
theorem d_Wire_nextRow_7 : decode b_Wire_nextRow 7 = .ok (.aload_n 0, 1) := by decide +kernel
theorem d_Wire_nextRow_8 : decode b_Wire_nextRow 8 = .ok (.getfield 11, 3) := by decide +kernel
theorem d_Wire_nextRow_11 : decode b_Wire_nextRow 11 = .ok (.bipush 40, 2) := by decide +kernel
theorem d_Wire_nextRow_13 : decode b_Wire_nextRow 13 = .ok (.aaload, 1) := by decide +kernel
theorem d_Wire_nextRow_14 : decode b_Wire_nextRow 14 = .ok (.areturn, 1) := by decide +kernel
theorem d_Wire_nextRow_15 : decode b_Wire_nextRow 15 = .ok (.aload_n 0, 1) := by decide +kernel
theorem d_Wire_nextRow_16 : decode b_Wire_nextRow 16 = .ok (.dup, 1) := by decide +kernel
theorem d_Wire_nextRow_17 : decode b_Wire_nextRow 17 = .ok (.getfield 18, 3) := by decide +kernel
theorem d_Wire_nextRow_20 : decode b_Wire_nextRow 20 = .ok (.iconst 1, 1) := by decide +kernel
theorem d_Wire_nextRow_21 : decode b_Wire_nextRow 21 = .ok (.iadd, 1) := by decide +kernel
theorem d_Wire_nextRow_22 : decode b_Wire_nextRow 22 = .ok (.putfield 18, 3) := by decide +kernel
theorem d_Wire_nextRow_25 : decode b_Wire_nextRow 25 = .ok (.aload_n 0, 1) := by decide +kernel
theorem d_Wire_nextRow_26 : decode b_Wire_nextRow 26 = .ok (.getfield 11, 3) := by decide +kernel
theorem d_Wire_nextRow_29 : decode b_Wire_nextRow 29 = .ok (.aload_n 0, 1) := by decide +kernel
theorem d_Wire_nextRow_30 : decode b_Wire_nextRow 30 = .ok (.getfield 18, 3) := by decide +kernel
theorem d_Wire_nextRow_33 : decode b_Wire_nextRow 33 = .ok (.iconst 1, 1) := by decide +kernel
theorem d_Wire_nextRow_34 : decode b_Wire_nextRow 34 = .ok (.isub, 1) := by decide +kernel
theorem d_Wire_nextRow_35 : decode b_Wire_nextRow 35 = .ok (.aaload, 1) := by decide +kernel
theorem d_Wire_nextRow_36 : decode b_Wire_nextRow 36 = .ok (.areturn, 1) := by decide +kernel
theorem d_Wire_sendTo_0 : decode b_Wire_sendTo 0 = .ok (.aload_n 0, 1) := by decide +kernel
theorem d_Wire_sendTo_1 : decode b_Wire_sendTo 1 = .ok (.invokevirtual 26, 3) := by decide +kernel
theorem d_Wire_sendTo_4 : decode b_Wire_sendTo 4 = .ok (.astore 5, 2) := by decide +kernel
theorem d_Wire_sendTo_6 : decode b_Wire_sendTo 6 = .ok (.aload 5, 2) := by decide +kernel
theorem d_Wire_sendTo_8 : decode b_Wire_sendTo 8 = .ok (.iload_n 2, 1) := by decide +kernel
theorem d_Wire_sendTo_9 : decode b_Wire_sendTo 9 = .ok (.iload_n 1, 1) := by decide +kernel
theorem d_Wire_sendTo_10 : decode b_Wire_sendTo 10 = .ok (.iload_n 3, 1) := by decide +kernel
theorem d_Wire_sendTo_11 : decode b_Wire_sendTo 11 = .ok (.iload 4, 2) := by decide +kernel
theorem d_Wire_sendTo_13 : decode b_Wire_sendTo 13 = .ok (.invokevirtual 30, 3) := by decide +kernel
theorem d_Wire_sendTo_16 : decode b_Wire_sendTo 16 = .ok (.aload 5, 2) := by decide +kernel
theorem d_Wire_sendTo_18 : decode b_Wire_sendTo 18 = .ok (.areturn, 1) := by decide +kernel
theorem d_Wire_sendInNetwork_0 : decode b_Wire_sendInNetwork 0 = .ok (.aload_n 0, 1) := by decide +kernel
theorem d_Wire_sendInNetwork_1 : decode b_Wire_sendInNetwork 1 = .ok (.iconst 5, 1) := by decide +kernel
theorem d_Wire_sendInNetwork_2 : decode b_Wire_sendInNetwork 2 = .ok (.iload_n 2, 1) := by decide +kernel
theorem d_Wire_sendInNetwork_3 : decode b_Wire_sendInNetwork 3 = .ok (.iload_n 3, 1) := by decide +kernel
theorem d_Wire_sendInNetwork_4 : decode b_Wire_sendInNetwork 4 = .ok (.iload 4, 2) := by decide +kernel
theorem d_Wire_sendInNetwork_6 : decode b_Wire_sendInNetwork 6 = .ok (.invokevirtual 34, 3) := by decide +kernel
theorem d_Wire_sendInNetwork_9 : decode b_Wire_sendInNetwork 9 = .ok (.astore 5, 2) := by decide +kernel
theorem d_Wire_sendInNetwork_11 : decode b_Wire_sendInNetwork 11 = .ok (.aload 5, 2) := by decide +kernel
theorem d_Wire_sendInNetwork_13 : decode b_Wire_sendInNetwork 13 = .ok (.iload_n 1, 1) := by decide +kernel
theorem d_Wire_sendInNetwork_14 : decode b_Wire_sendInNetwork 14 = .ok (.putfield 38, 3) := by decide +kernel
theorem d_Wire_sendInNetwork_17 : decode b_Wire_sendInNetwork 17 = .ok (.aload 5, 2) := by decide +kernel
theorem d_Wire_sendInNetwork_19 : decode b_Wire_sendInNetwork 19 = .ok (.areturn, 1) := by decide +kernel
theorem d_Wire_sendOn_0 : decode b_Wire_sendOn 0 = .ok (.aload_n 0, 1) := by decide +kernel
theorem d_Wire_sendOn_1 : decode b_Wire_sendOn 1 = .ok (.invokevirtual 26, 3) := by decide +kernel
theorem d_Wire_sendOn_4 : decode b_Wire_sendOn 4 = .ok (.astore 4, 2) := by decide +kernel
theorem d_Wire_sendOn_6 : decode b_Wire_sendOn 6 = .ok (.aload 4, 2) := by decide +kernel
theorem d_Wire_sendOn_8 : decode b_Wire_sendOn 8 = .ok (.aload_n 1, 1) := by decide +kernel
theorem d_Wire_sendOn_9 : decode b_Wire_sendOn 9 = .ok (.invokevirtual 41, 3) := by decide +kernel
theorem d_Wire_sendOn_12 : decode b_Wire_sendOn 12 = .ok (.aload 4, 2) := by decide +kernel
theorem d_Wire_sendOn_14 : decode b_Wire_sendOn 14 = .ok (.iload_n 2, 1) := by decide +kernel
theorem d_Wire_sendOn_15 : decode b_Wire_sendOn 15 = .ok (.putfield 45, 3) := by decide +kernel
theorem d_Wire_sendOn_18 : decode b_Wire_sendOn 18 = .ok (.aload 4, 2) := by decide +kernel
theorem d_Wire_sendOn_20 : decode b_Wire_sendOn 20 = .ok (.iload_n 3, 1) := by decide +kernel
theorem d_Wire_sendOn_21 : decode b_Wire_sendOn 21 = .ok (.putfield 38, 3) := by decide +kernel
theorem d_Wire_sendOn_24 : decode b_Wire_sendOn 24 = .ok (.return_, 1) := by decide +kernel
theorem d_Mob_endsSoon_0 : decode b_Mob_endsSoon 0 = .ok (.aload_n 0, 1) := by decide +kernel
theorem d_Mob_endsSoon_1 : decode b_Mob_endsSoon 1 = .ok (.getfield 22, 3) := by decide +kernel
theorem d_Mob_endsSoon_4 : decode b_Mob_endsSoon 4 = .ok (.ifCond .eq 23, 3) := by decide +kernel
theorem d_Mob_endsSoon_7 : decode b_Mob_endsSoon 7 = .ok (.aload_n 0, 1) := by decide +kernel
theorem d_Mob_endsSoon_8 : decode b_Mob_endsSoon 8 = .ok (.getfield 26, 3) := by decide +kernel
theorem d_Mob_endsSoon_11 : decode b_Mob_endsSoon 11 = .ok (.aload_n 0, 1) := by decide +kernel
theorem d_Mob_endsSoon_12 : decode b_Mob_endsSoon 12 = .ok (.getfield 18, 3) := by decide +kernel
theorem d_Mob_endsSoon_15 : decode b_Mob_endsSoon 15 = .ok (.getfield 55, 3) := by decide +kernel
theorem d_Mob_endsSoon_18 : decode b_Mob_endsSoon 18 = .ok (.iconst 4, 1) := by decide +kernel
theorem d_Mob_endsSoon_19 : decode b_Mob_endsSoon 19 = .ok (.iadd, 1) := by decide +kernel
theorem d_Mob_endsSoon_20 : decode b_Mob_endsSoon 20 = .ok (.if_icmp .gt 7, 3) := by decide +kernel
theorem d_Mob_endsSoon_23 : decode b_Mob_endsSoon 23 = .ok (.iconst 1, 1) := by decide +kernel
theorem d_Mob_endsSoon_24 : decode b_Mob_endsSoon 24 = .ok (.goto 4, 3) := by decide +kernel
theorem d_Mob_endsSoon_27 : decode b_Mob_endsSoon 27 = .ok (.iconst 0, 1) := by decide +kernel
theorem d_Mob_endsSoon_28 : decode b_Mob_endsSoon 28 = .ok (.ireturn, 1) := by decide +kernel
theorem d_Mob_registerWith_0 : decode b_Mob_registerWith 0 = .ok (.aload_n 0, 1) := by decide +kernel
theorem d_Mob_registerWith_1 : decode b_Mob_registerWith 1 = .ok (.dup, 1) := by decide +kernel
theorem d_Mob_registerWith_2 : decode b_Mob_registerWith 2 = .ok (.getfield 76, 3) := by decide +kernel
theorem d_Mob_registerWith_5 : decode b_Mob_registerWith 5 = .ok (.iconst 1, 1) := by decide +kernel
theorem d_Mob_registerWith_6 : decode b_Mob_registerWith 6 = .ok (.iadd, 1) := by decide +kernel
theorem d_Mob_registerWith_7 : decode b_Mob_registerWith 7 = .ok (.putfield 76, 3) := by decide +kernel
theorem d_Mob_registerWith_10 : decode b_Mob_registerWith 10 = .ok (.aload_n 0, 1) := by decide +kernel
theorem d_Mob_registerWith_11 : decode b_Mob_registerWith 11 = .ok (.getfield 18, 3) := by decide +kernel
theorem d_Mob_registerWith_14 : decode b_Mob_registerWith 14 = .ok (.iload_n 1, 1) := by decide +kernel
theorem d_Mob_registerWith_15 : decode b_Mob_registerWith 15 = .ok (.iconst 2, 1) := by decide +kernel
theorem d_Mob_registerWith_16 : decode b_Mob_registerWith 16 = .ok (.aload_n 0, 1) := by decide +kernel
theorem d_Mob_registerWith_17 : decode b_Mob_registerWith 17 = .ok (.getfield 9, 3) := by decide +kernel
theorem d_Mob_registerWith_20 : decode b_Mob_registerWith 20 = .ok (.aload_n 0, 1) := by decide +kernel
theorem d_Mob_registerWith_21 : decode b_Mob_registerWith 21 = .ok (.getfield 76, 3) := by decide +kernel
theorem d_Mob_registerWith_24 : decode b_Mob_registerWith 24 = .ok (.invokevirtual 79, 3) := by decide +kernel
theorem d_Mob_registerWith_27 : decode b_Mob_registerWith 27 = .ok (.astore_n 2, 1) := by decide +kernel
theorem d_Mob_registerWith_28 : decode b_Mob_registerWith 28 = .ok (.aload_n 2, 1) := by decide +kernel
theorem d_Mob_registerWith_29 : decode b_Mob_registerWith 29 = .ok (.iload_n 1, 1) := by decide +kernel
theorem d_Mob_registerWith_30 : decode b_Mob_registerWith 30 = .ok (.putfield 83, 3) := by decide +kernel
theorem d_Mob_registerWith_33 : decode b_Mob_registerWith 33 = .ok (.aload_n 2, 1) := by decide +kernel
theorem d_Mob_registerWith_34 : decode b_Mob_registerWith 34 = .ok (.iload_n 1, 1) := by decide +kernel
theorem d_Mob_registerWith_35 : decode b_Mob_registerWith 35 = .ok (.ifCond .ne 7, 3) := by decide +kernel
theorem d_Mob_registerWith_38 : decode b_Mob_registerWith 38 = .ok (.iconst 0, 1) := by decide +kernel
theorem d_Mob_registerWith_39 : decode b_Mob_registerWith 39 = .ok (.goto 7, 3) := by decide +kernel
theorem d_Mob_registerWith_42 : decode b_Mob_registerWith 42 = .ok (.aload_n 0, 1) := by decide +kernel
theorem d_Mob_registerWith_43 : decode b_Mob_registerWith 43 = .ok (.getfield 15, 3) := by decide +kernel
theorem d_Mob_registerWith_46 : decode b_Mob_registerWith 46 = .ok (.putfield 86, 3) := by decide +kernel
theorem d_Mob_registerWith_49 : decode b_Mob_registerWith 49 = .ok (.aload_n 2, 1) := by decide +kernel
theorem d_Mob_registerWith_50 : decode b_Mob_registerWith 50 = .ok (.aload_n 2, 1) := by decide +kernel
theorem d_Mob_registerWith_51 : decode b_Mob_registerWith 51 = .ok (.aload_n 0, 1) := by decide +kernel
theorem d_Mob_registerWith_52 : decode b_Mob_registerWith 52 = .ok (.getfield 89, 3) := by decide +kernel
theorem d_Mob_registerWith_55 : decode b_Mob_registerWith 55 = .ok (.invokevirtual 92, 3) := by decide +kernel
theorem d_Mob_registerWith_58 : decode b_Mob_registerWith 58 = .ok (.putfield 96, 3) := by decide +kernel
theorem d_Mob_registerWith_61 : decode b_Mob_registerWith 61 = .ok (.aload_n 0, 1) := by decide +kernel
theorem d_Mob_registerWith_62 : decode b_Mob_registerWith 62 = .ok (.aload_n 0, 1) := by decide +kernel
theorem d_Mob_registerWith_63 : decode b_Mob_registerWith 63 = .ok (.getfield 76, 3) := by decide +kernel
theorem d_Mob_registerWith_66 : decode b_Mob_registerWith 66 = .ok (.putfield 63, 3) := by decide +kernel
theorem d_Mob_registerWith_69 : decode b_Mob_registerWith 69 = .ok (.aload_n 0, 1) := by decide +kernel
theorem d_Mob_registerWith_70 : decode b_Mob_registerWith 70 = .ok (.iload_n 1, 1) := by decide +kernel
theorem d_Mob_registerWith_71 : decode b_Mob_registerWith 71 = .ok (.putfield 66, 3) := by decide +kernel
theorem d_Mob_registerWith_74 : decode b_Mob_registerWith 74 = .ok (.aload_n 0, 1) := by decide +kernel
theorem d_Mob_registerWith_75 : decode b_Mob_registerWith 75 = .ok (.aload_n 0, 1) := by decide +kernel
theorem d_Mob_registerWith_76 : decode b_Mob_registerWith 76 = .ok (.getfield 18, 3) := by decide +kernel
theorem d_Mob_registerWith_79 : decode b_Mob_registerWith 79 = .ok (.getfield 55, 3) := by decide +kernel
theorem d_Mob_registerWith_82 : decode b_Mob_registerWith 82 = .ok (.putfield 99, 3) := by decide +kernel
theorem d_Mob_registerWith_85 : decode b_Mob_registerWith 85 = .ok (.return_, 1) := by decide +kernel
theorem d_Mob_takeAdvert_0 : decode b_Mob_takeAdvert 0 = .ok (.aload_n 0, 1) := by decide +kernel
theorem d_Mob_takeAdvert_1 : decode b_Mob_takeAdvert 1 = .ok (.iload_n 1, 1) := by decide +kernel
theorem d_Mob_takeAdvert_2 : decode b_Mob_takeAdvert 2 = .ok (.putfield 29, 3) := by decide +kernel
theorem d_Mob_takeAdvert_5 : decode b_Mob_takeAdvert 5 = .ok (.aload_n 0, 1) := by decide +kernel
theorem d_Mob_takeAdvert_6 : decode b_Mob_takeAdvert 6 = .ok (.aload_n 0, 1) := by decide +kernel
theorem d_Mob_takeAdvert_7 : decode b_Mob_takeAdvert 7 = .ok (.getfield 18, 3) := by decide +kernel
theorem d_Mob_takeAdvert_10 : decode b_Mob_takeAdvert 10 = .ok (.getfield 55, 3) := by decide +kernel
theorem d_Mob_takeAdvert_13 : decode b_Mob_takeAdvert 13 = .ok (.bipush 12, 2) := by decide +kernel
theorem d_Mob_takeAdvert_15 : decode b_Mob_takeAdvert 15 = .ok (.iadd, 1) := by decide +kernel
theorem d_Mob_takeAdvert_16 : decode b_Mob_takeAdvert 16 = .ok (.putfield 60, 3) := by decide +kernel
theorem d_Mob_takeAdvert_19 : decode b_Mob_takeAdvert 19 = .ok (.aload_n 0, 1) := by decide +kernel
theorem d_Mob_takeAdvert_20 : decode b_Mob_takeAdvert 20 = .ok (.getfield 63, 3) := by decide +kernel
theorem d_Mob_takeAdvert_23 : decode b_Mob_takeAdvert 23 = .ok (.ifCond .eq 15, 3) := by decide +kernel
theorem d_Mob_takeAdvert_26 : decode b_Mob_takeAdvert 26 = .ok (.aload_n 0, 1) := by decide +kernel
theorem d_Mob_takeAdvert_27 : decode b_Mob_takeAdvert 27 = .ok (.getfield 66, 3) := by decide +kernel
theorem d_Mob_takeAdvert_30 : decode b_Mob_takeAdvert 30 = .ok (.iload_n 1, 1) := by decide +kernel
theorem d_Mob_takeAdvert_31 : decode b_Mob_takeAdvert 31 = .ok (.if_icmp .ne 7, 3) := by decide +kernel
theorem d_Mob_takeAdvert_34 : decode b_Mob_takeAdvert 34 = .ok (.iconst 1, 1) := by decide +kernel
theorem d_Mob_takeAdvert_35 : decode b_Mob_takeAdvert 35 = .ok (.goto 4, 3) := by decide +kernel
theorem d_Mob_takeAdvert_38 : decode b_Mob_takeAdvert 38 = .ok (.iconst 0, 1) := by decide +kernel
theorem d_Mob_takeAdvert_39 : decode b_Mob_takeAdvert 39 = .ok (.istore_n 2, 1) := by decide +kernel
theorem d_Mob_takeAdvert_40 : decode b_Mob_takeAdvert 40 = .ok (.aload_n 0, 1) := by decide +kernel
theorem d_Mob_takeAdvert_41 : decode b_Mob_takeAdvert 41 = .ok (.getfield 22, 3) := by decide +kernel
theorem d_Mob_takeAdvert_44 : decode b_Mob_takeAdvert 44 = .ok (.iload_n 1, 1) := by decide +kernel
theorem d_Mob_takeAdvert_45 : decode b_Mob_takeAdvert 45 = .ok (.if_icmp .ne 10, 3) := by decide +kernel
theorem d_Mob_takeAdvert_48 : decode b_Mob_takeAdvert 48 = .ok (.aload_n 0, 1) := by decide +kernel
theorem d_Mob_takeAdvert_49 : decode b_Mob_takeAdvert 49 = .ok (.invokevirtual 69, 3) := by decide +kernel
theorem d_Mob_takeAdvert_52 : decode b_Mob_takeAdvert 52 = .ok (.ifCond .eq 12, 3) := by decide +kernel
theorem d_Mob_takeAdvert_55 : decode b_Mob_takeAdvert 55 = .ok (.iload_n 2, 1) := by decide +kernel
theorem d_Mob_takeAdvert_56 : decode b_Mob_takeAdvert 56 = .ok (.ifCond .ne 8, 3) := by decide +kernel
theorem d_Mob_takeAdvert_59 : decode b_Mob_takeAdvert 59 = .ok (.aload_n 0, 1) := by decide +kernel
theorem d_Mob_takeAdvert_60 : decode b_Mob_takeAdvert 60 = .ok (.iload_n 1, 1) := by decide +kernel
theorem d_Mob_takeAdvert_61 : decode b_Mob_takeAdvert 61 = .ok (.invokevirtual 73, 3) := by decide +kernel
theorem d_Mob_takeAdvert_64 : decode b_Mob_takeAdvert 64 = .ok (.return_, 1) := by decide +kernel
theorem d_Mob_takeReply_0 : decode b_Mob_takeReply 0 = .ok (.aload_n 0, 1) := by decide +kernel
theorem d_Mob_takeReply_1 : decode b_Mob_takeReply 1 = .ok (.getfield 63, 3) := by decide +kernel
theorem d_Mob_takeReply_4 : decode b_Mob_takeReply 4 = .ok (.ifCond .eq 14, 3) := by decide +kernel
theorem d_Mob_takeReply_7 : decode b_Mob_takeReply 7 = .ok (.aload_n 0, 1) := by decide +kernel
theorem d_Mob_takeReply_8 : decode b_Mob_takeReply 8 = .ok (.getfield 63, 3) := by decide +kernel
theorem d_Mob_takeReply_11 : decode b_Mob_takeReply 11 = .ok (.aload_n 1, 1) := by decide +kernel
theorem d_Mob_takeReply_12 : decode b_Mob_takeReply 12 = .ok (.getfield 41, 3) := by decide +kernel
theorem d_Mob_takeReply_15 : decode b_Mob_takeReply 15 = .ok (.if_icmp .eq 4, 3) := by decide +kernel
theorem d_Mob_takeReply_18 : decode b_Mob_takeReply 18 = .ok (.return_, 1) := by decide +kernel
theorem d_Mob_takeReply_19 : decode b_Mob_takeReply 19 = .ok (.aload_n 1, 1) := by decide +kernel
theorem d_Mob_takeReply_20 : decode b_Mob_takeReply 20 = .ok (.getfield 102, 3) := by decide +kernel
theorem d_Mob_takeReply_23 : decode b_Mob_takeReply 23 = .ok (.bipush 66, 2) := by decide +kernel
theorem d_Mob_takeReply_25 : decode b_Mob_takeReply 25 = .ok (.if_icmp .ne 11, 3) := by decide +kernel
theorem d_Mob_takeReply_28 : decode b_Mob_takeReply 28 = .ok (.aload_n 0, 1) := by decide +kernel
theorem d_Mob_takeReply_29 : decode b_Mob_takeReply 29 = .ok (.iconst 0, 1) := by decide +kernel
theorem d_Mob_takeReply_30 : decode b_Mob_takeReply 30 = .ok (.putfield 63, 3) := by decide +kernel
theorem d_Mob_takeReply_33 : decode b_Mob_takeReply 33 = .ok (.goto 63, 3) := by decide +kernel
theorem d_Mob_takeReply_36 : decode b_Mob_takeReply 36 = .ok (.aload_n 1, 1) := by decide +kernel
theorem d_Mob_takeReply_37 : decode b_Mob_takeReply 37 = .ok (.getfield 96, 3) := by decide +kernel
theorem d_Mob_takeReply_40 : decode b_Mob_takeReply 40 = .ok (.aload_n 1, 1) := by decide +kernel
theorem d_Mob_takeReply_41 : decode b_Mob_takeReply 41 = .ok (.aload_n 0, 1) := by decide +kernel
theorem d_Mob_takeReply_42 : decode b_Mob_takeReply 42 = .ok (.getfield 89, 3) := by decide +kernel
theorem d_Mob_takeReply_45 : decode b_Mob_takeReply 45 = .ok (.invokevirtual 105, 3) := by decide +kernel
theorem d_Mob_takeReply_48 : decode b_Mob_takeReply 48 = .ok (.if_icmp .ne 48, 3) := by decide +kernel
theorem d_Mob_takeReply_51 : decode b_Mob_takeReply 51 = .ok (.aload_n 0, 1) := by decide +kernel
theorem d_Mob_takeReply_52 : decode b_Mob_takeReply 52 = .ok (.iconst 0, 1) := by decide +kernel
theorem d_Mob_takeReply_53 : decode b_Mob_takeReply 53 = .ok (.putfield 63, 3) := by decide +kernel
theorem d_Mob_takeReply_56 : decode b_Mob_takeReply 56 = .ok (.aload_n 1, 1) := by decide +kernel
theorem d_Mob_takeReply_57 : decode b_Mob_takeReply 57 = .ok (.getfield 102, 3) := by decide +kernel
theorem d_Mob_takeReply_60 : decode b_Mob_takeReply 60 = .ok (.ifCond .ne 36, 3) := by decide +kernel
theorem d_Mob_takeReply_63 : decode b_Mob_takeReply 63 = .ok (.aload_n 0, 1) := by decide +kernel
theorem d_Mob_takeReply_64 : decode b_Mob_takeReply 64 = .ok (.aload_n 1, 1) := by decide +kernel
theorem d_Mob_takeReply_65 : decode b_Mob_takeReply 65 = .ok (.getfield 83, 3) := by decide +kernel
theorem d_Mob_takeReply_68 : decode b_Mob_takeReply 68 = .ok (.putfield 22, 3) := by decide +kernel
theorem d_Mob_takeReply_71 : decode b_Mob_takeReply 71 = .ok (.aload_n 0, 1) := by decide +kernel
theorem d_Mob_takeReply_72 : decode b_Mob_takeReply 72 = .ok (.aload_n 0, 1) := by decide +kernel
theorem d_Mob_takeReply_73 : decode b_Mob_takeReply 73 = .ok (.getfield 22, 3) := by decide +kernel
theorem d_Mob_takeReply_76 : decode b_Mob_takeReply 76 = .ok (.ifCond .ne 8, 3) := by decide +kernel
theorem d_Mob_takeReply_79 : decode b_Mob_takeReply 79 = .ok (.ldc 25, 2) := by decide +kernel
theorem d_Mob_takeReply_81 : decode b_Mob_takeReply 81 = .ok (.goto 12, 3) := by decide +kernel
theorem d_Mob_takeReply_84 : decode b_Mob_takeReply 84 = .ok (.aload_n 0, 1) := by decide +kernel
theorem d_Mob_takeReply_85 : decode b_Mob_takeReply 85 = .ok (.getfield 99, 3) := by decide +kernel
theorem d_Mob_takeReply_88 : decode b_Mob_takeReply 88 = .ok (.aload_n 1, 1) := by decide +kernel
theorem d_Mob_takeReply_89 : decode b_Mob_takeReply 89 = .ok (.getfield 86, 3) := by decide +kernel
theorem d_Mob_takeReply_92 : decode b_Mob_takeReply 92 = .ok (.iadd, 1) := by decide +kernel
theorem d_Mob_takeReply_93 : decode b_Mob_takeReply 93 = .ok (.putfield 26, 3) := by decide +kernel
theorem d_Mob_takeReply_96 : decode b_Mob_takeReply 96 = .ok (.return_, 1) := by decide +kernel
theorem d_Mob_takeData_0 : decode b_Mob_takeData 0 = .ok (.iload_n 1, 1) := by decide +kernel
theorem d_Mob_takeData_1 : decode b_Mob_takeData 1 = .ok (.aload_n 0, 1) := by decide +kernel
theorem d_Mob_takeData_2 : decode b_Mob_takeData 2 = .ok (.getfield 108, 3) := by decide +kernel
theorem d_Mob_takeData_5 : decode b_Mob_takeData 5 = .ok (.iconst 1, 1) := by decide +kernel
theorem d_Mob_takeData_6 : decode b_Mob_takeData 6 = .ok (.iadd, 1) := by decide +kernel
theorem d_Mob_takeData_7 : decode b_Mob_takeData 7 = .ok (.if_icmp .ne 13, 3) := by decide +kernel
theorem d_Mob_takeData_10 : decode b_Mob_takeData 10 = .ok (.aload_n 0, 1) := by decide +kernel
theorem d_Mob_takeData_11 : decode b_Mob_takeData 11 = .ok (.dup, 1) := by decide +kernel
theorem d_Mob_takeData_12 : decode b_Mob_takeData 12 = .ok (.getfield 108, 3) := by decide +kernel
theorem d_Mob_takeData_15 : decode b_Mob_takeData 15 = .ok (.iconst 1, 1) := by decide +kernel
theorem d_Mob_takeData_16 : decode b_Mob_takeData 16 = .ok (.iadd, 1) := by decide +kernel
theorem d_Mob_takeData_17 : decode b_Mob_takeData 17 = .ok (.putfield 108, 3) := by decide +kernel
theorem d_Mob_takeData_20 : decode b_Mob_takeData 20 = .ok (.aload_n 0, 1) := by decide +kernel
theorem d_Mob_takeData_21 : decode b_Mob_takeData 21 = .ok (.getfield 18, 3) := by decide +kernel
theorem d_Mob_takeData_24 : decode b_Mob_takeData 24 = .ok (.iconst 4, 1) := by decide +kernel
theorem d_Mob_takeData_25 : decode b_Mob_takeData 25 = .ok (.bipush 6, 2) := by decide +kernel
theorem d_Mob_takeData_27 : decode b_Mob_takeData 27 = .ok (.aload_n 0, 1) := by decide +kernel
theorem d_Mob_takeData_28 : decode b_Mob_takeData 28 = .ok (.getfield 9, 3) := by decide +kernel
theorem d_Mob_takeData_31 : decode b_Mob_takeData 31 = .ok (.aload_n 0, 1) := by decide +kernel
theorem d_Mob_takeData_32 : decode b_Mob_takeData 32 = .ok (.getfield 108, 3) := by decide +kernel
theorem d_Mob_takeData_35 : decode b_Mob_takeData 35 = .ok (.invokevirtual 79, 3) := by decide +kernel
theorem d_Mob_takeData_38 : decode b_Mob_takeData 38 = .ok (.pop, 1) := by decide +kernel
theorem d_Mob_takeData_39 : decode b_Mob_takeData 39 = .ok (.return_, 1) := by decide +kernel
theorem d_Mob_receive_0 : decode b_Mob_receive 0 = .ok (.aload_n 1, 1) := by decide +kernel
theorem d_Mob_receive_1 : decode b_Mob_receive 1 = .ok (.getfield 32, 3) := by decide +kernel
theorem d_Mob_receive_4 : decode b_Mob_receive 4 = .ok (.aload_n 0, 1) := by decide +kernel
theorem d_Mob_receive_5 : decode b_Mob_receive 5 = .ok (.getfield 37, 3) := by decide +kernel
theorem d_Mob_receive_8 : decode b_Mob_receive 8 = .ok (.if_icmp .eq 4, 3) := by decide +kernel
theorem d_Mob_receive_11 : decode b_Mob_receive 11 = .ok (.return_, 1) := by decide +kernel
theorem d_Mob_receive_12 : decode b_Mob_receive 12 = .ok (.aload_n 1, 1) := by decide +kernel
theorem d_Mob_receive_13 : decode b_Mob_receive 13 = .ok (.getfield 38, 3) := by decide +kernel
theorem d_Mob_receive_16 : decode b_Mob_receive 16 = .ok (.iconst 1, 1) := by decide +kernel
theorem d_Mob_receive_17 : decode b_Mob_receive 17 = .ok (.if_icmp .ne 14, 3) := by decide +kernel
theorem d_Mob_receive_20 : decode b_Mob_receive 20 = .ok (.aload_n 0, 1) := by decide +kernel
theorem d_Mob_receive_21 : decode b_Mob_receive 21 = .ok (.aload_n 1, 1) := by decide +kernel
theorem d_Mob_receive_22 : decode b_Mob_receive 22 = .ok (.getfield 41, 3) := by decide +kernel
theorem d_Mob_receive_25 : decode b_Mob_receive 25 = .ok (.invokevirtual 44, 3) := by decide +kernel
theorem d_Mob_receive_28 : decode b_Mob_receive 28 = .ok (.goto 35, 3) := by decide +kernel
theorem d_Mob_receive_31 : decode b_Mob_receive 31 = .ok (.aload_n 1, 1) := by decide +kernel
theorem d_Mob_receive_32 : decode b_Mob_receive 32 = .ok (.getfield 38, 3) := by decide +kernel
theorem d_Mob_receive_35 : decode b_Mob_receive 35 = .ok (.iconst 3, 1) := by decide +kernel
theorem d_Mob_receive_36 : decode b_Mob_receive 36 = .ok (.if_icmp .ne 11, 3) := by decide +kernel
theorem d_Mob_receive_39 : decode b_Mob_receive 39 = .ok (.aload_n 0, 1) := by decide +kernel
theorem d_Mob_receive_40 : decode b_Mob_receive 40 = .ok (.aload_n 1, 1) := by decide +kernel
theorem d_Mob_receive_41 : decode b_Mob_receive 41 = .ok (.invokevirtual 48, 3) := by decide +kernel
theorem d_Mob_receive_44 : decode b_Mob_receive 44 = .ok (.goto 19, 3) := by decide +kernel
theorem d_Mob_receive_47 : decode b_Mob_receive 47 = .ok (.aload_n 1, 1) := by decide +kernel
theorem d_Mob_receive_48 : decode b_Mob_receive 48 = .ok (.getfield 38, 3) := by decide +kernel
theorem d_Mob_receive_51 : decode b_Mob_receive 51 = .ok (.iconst 4, 1) := by decide +kernel
theorem d_Mob_receive_52 : decode b_Mob_receive 52 = .ok (.if_icmp .ne 11, 3) := by decide +kernel
theorem d_Mob_receive_55 : decode b_Mob_receive 55 = .ok (.aload_n 0, 1) := by decide +kernel
theorem d_Mob_receive_56 : decode b_Mob_receive 56 = .ok (.aload_n 1, 1) := by decide +kernel
theorem d_Mob_receive_57 : decode b_Mob_receive 57 = .ok (.getfield 41, 3) := by decide +kernel
theorem d_Mob_receive_60 : decode b_Mob_receive 60 = .ok (.invokevirtual 52, 3) := by decide +kernel
theorem d_Mob_receive_63 : decode b_Mob_receive 63 = .ok (.return_, 1) := by decide +kernel
theorem d_Mob_notice_0 : decode b_Mob_notice 0 = .ok (.aload_n 0, 1) := by decide +kernel
theorem d_Mob_notice_1 : decode b_Mob_notice 1 = .ok (.getfield 60, 3) := by decide +kernel
theorem d_Mob_notice_4 : decode b_Mob_notice 4 = .ok (.aload_n 0, 1) := by decide +kernel
theorem d_Mob_notice_5 : decode b_Mob_notice 5 = .ok (.getfield 18, 3) := by decide +kernel
theorem d_Mob_notice_8 : decode b_Mob_notice 8 = .ok (.getfield 55, 3) := by decide +kernel
theorem d_Mob_notice_11 : decode b_Mob_notice 11 = .ok (.if_icmp .gt 8, 3) := by decide +kernel
theorem d_Mob_notice_14 : decode b_Mob_notice 14 = .ok (.aload_n 0, 1) := by decide +kernel
theorem d_Mob_notice_15 : decode b_Mob_notice 15 = .ok (.iconst (-1), 1) := by decide +kernel
theorem d_Mob_notice_16 : decode b_Mob_notice 16 = .ok (.putfield 29, 3) := by decide +kernel
theorem d_Mob_notice_19 : decode b_Mob_notice 19 = .ok (.aload_n 0, 1) := by decide +kernel
theorem d_Mob_notice_20 : decode b_Mob_notice 20 = .ok (.getfield 26, 3) := by decide +kernel
theorem d_Mob_notice_23 : decode b_Mob_notice 23 = .ok (.aload_n 0, 1) := by decide +kernel
theorem d_Mob_notice_24 : decode b_Mob_notice 24 = .ok (.getfield 18, 3) := by decide +kernel
theorem d_Mob_notice_27 : decode b_Mob_notice 27 = .ok (.getfield 55, 3) := by decide +kernel
theorem d_Mob_notice_30 : decode b_Mob_notice 30 = .ok (.if_icmp .gt 8, 3) := by decide +kernel
theorem d_Mob_notice_33 : decode b_Mob_notice 33 = .ok (.aload_n 0, 1) := by decide +kernel
theorem d_Mob_notice_34 : decode b_Mob_notice 34 = .ok (.iconst (-1), 1) := by decide +kernel
theorem d_Mob_notice_35 : decode b_Mob_notice 35 = .ok (.putfield 22, 3) := by decide +kernel
theorem d_Mob_notice_38 : decode b_Mob_notice 38 = .ok (.aload_n 0, 1) := by decide +kernel
theorem d_Mob_notice_39 : decode b_Mob_notice 39 = .ok (.getfield 63, 3) := by decide +kernel
theorem d_Mob_notice_42 : decode b_Mob_notice 42 = .ok (.ifCond .eq 46, 3) := by decide +kernel
theorem d_Mob_notice_45 : decode b_Mob_notice 45 = .ok (.aload_n 0, 1) := by decide +kernel
theorem d_Mob_notice_46 : decode b_Mob_notice 46 = .ok (.getfield 18, 3) := by decide +kernel
theorem d_Mob_notice_49 : decode b_Mob_notice 49 = .ok (.getfield 55, 3) := by decide +kernel
theorem d_Mob_notice_52 : decode b_Mob_notice 52 = .ok (.aload_n 0, 1) := by decide +kernel
theorem d_Mob_notice_53 : decode b_Mob_notice 53 = .ok (.getfield 99, 3) := by decide +kernel
theorem d_Mob_notice_56 : decode b_Mob_notice 56 = .ok (.isub, 1) := by decide +kernel
theorem d_Mob_notice_57 : decode b_Mob_notice 57 = .ok (.iconst 3, 1) := by decide +kernel
theorem d_Mob_notice_58 : decode b_Mob_notice 58 = .ok (.if_icmp .lt 30, 3) := by decide +kernel
theorem d_Mob_notice_61 : decode b_Mob_notice 61 = .ok (.aload_n 0, 1) := by decide +kernel
theorem d_Mob_notice_62 : decode b_Mob_notice 62 = .ok (.getfield 66, 3) := by decide +kernel
theorem d_Mob_notice_65 : decode b_Mob_notice 65 = .ok (.aload_n 0, 1) := by decide +kernel
theorem d_Mob_notice_66 : decode b_Mob_notice 66 = .ok (.getfield 29, 3) := by decide +kernel
theorem d_Mob_notice_69 : decode b_Mob_notice 69 = .ok (.if_icmp .ne 14, 3) := by decide +kernel
theorem d_Mob_notice_72 : decode b_Mob_notice 72 = .ok (.aload_n 0, 1) := by decide +kernel
theorem d_Mob_notice_73 : decode b_Mob_notice 73 = .ok (.aload_n 0, 1) := by decide +kernel
theorem d_Mob_notice_74 : decode b_Mob_notice 74 = .ok (.getfield 66, 3) := by decide +kernel
theorem d_Mob_notice_77 : decode b_Mob_notice 77 = .ok (.invokevirtual 73, 3) := by decide +kernel
theorem d_Mob_notice_80 : decode b_Mob_notice 80 = .ok (.goto 8, 3) := by decide +kernel
theorem d_Mob_notice_83 : decode b_Mob_notice 83 = .ok (.aload_n 0, 1) := by decide +kernel
theorem d_Mob_notice_84 : decode b_Mob_notice 84 = .ok (.iconst 0, 1) := by decide +kernel
theorem d_Mob_notice_85 : decode b_Mob_notice 85 = .ok (.putfield 63, 3) := by decide +kernel
theorem d_Mob_notice_88 : decode b_Mob_notice 88 = .ok (.return_, 1) := by decide +kernel
theorem d_Home_isBound_0 : decode b_Home_isBound 0 = .ok (.aload_n 0, 1) := by decide +kernel
theorem d_Home_isBound_1 : decode b_Home_isBound 1 = .ok (.getfield 15, 3) := by decide +kernel
theorem d_Home_isBound_4 : decode b_Home_isBound 4 = .ok (.getfield 32, 3) := by decide +kernel
theorem d_Home_isBound_7 : decode b_Home_isBound 7 = .ok (.aload_n 0, 1) := by decide +kernel
theorem d_Home_isBound_8 : decode b_Home_isBound 8 = .ok (.getfield 29, 3) := by decide +kernel
theorem d_Home_isBound_11 : decode b_Home_isBound 11 = .ok (.iload_n 1, 1) := by decide +kernel
theorem d_Home_isBound_12 : decode b_Home_isBound 12 = .ok (.iaload, 1) := by decide +kernel
theorem d_Home_isBound_13 : decode b_Home_isBound 13 = .ok (.if_icmp .ge 7, 3) := by decide +kernel
theorem d_Home_isBound_16 : decode b_Home_isBound 16 = .ok (.iconst 1, 1) := by decide +kernel
theorem d_Home_isBound_17 : decode b_Home_isBound 17 = .ok (.goto 4, 3) := by decide +kernel
theorem d_Home_isBound_20 : decode b_Home_isBound 20 = .ok (.iconst 0, 1) := by decide +kernel
theorem d_Home_isBound_21 : decode b_Home_isBound 21 = .ok (.ireturn, 1) := by decide +kernel
theorem d_Home_judge_0 : decode b_Home_judge 0 = .ok (.aload_n 1, 1) := by decide +kernel
theorem d_Home_judge_1 : decode b_Home_judge 1 = .ok (.getfield 46, 3) := by decide +kernel
theorem d_Home_judge_4 : decode b_Home_judge 4 = .ok (.istore_n 2, 1) := by decide +kernel
theorem d_Home_judge_5 : decode b_Home_judge 5 = .ok (.aload_n 1, 1) := by decide +kernel
theorem d_Home_judge_6 : decode b_Home_judge 6 = .ok (.getfield 85, 3) := by decide +kernel
theorem d_Home_judge_9 : decode b_Home_judge 9 = .ok (.aload_n 1, 1) := by decide +kernel
theorem d_Home_judge_10 : decode b_Home_judge 10 = .ok (.aload_n 0, 1) := by decide +kernel
theorem d_Home_judge_11 : decode b_Home_judge 11 = .ok (.getfield 19, 3) := by decide +kernel
theorem d_Home_judge_14 : decode b_Home_judge 14 = .ok (.iload_n 2, 1) := by decide +kernel
theorem d_Home_judge_15 : decode b_Home_judge 15 = .ok (.iaload, 1) := by decide +kernel
theorem d_Home_judge_16 : decode b_Home_judge 16 = .ok (.invokevirtual 88, 3) := by decide +kernel
theorem d_Home_judge_19 : decode b_Home_judge 19 = .ok (.if_icmp .eq 7, 3) := by decide +kernel
theorem d_Home_judge_22 : decode b_Home_judge 22 = .ok (.sipush 131, 3) := by decide +kernel
theorem d_Home_judge_25 : decode b_Home_judge 25 = .ok (.ireturn, 1) := by decide +kernel
theorem d_Home_judge_26 : decode b_Home_judge 26 = .ok (.aload_n 1, 1) := by decide +kernel
theorem d_Home_judge_27 : decode b_Home_judge 27 = .ok (.getfield 49, 3) := by decide +kernel
theorem d_Home_judge_30 : decode b_Home_judge 30 = .ok (.aload_n 0, 1) := by decide +kernel
theorem d_Home_judge_31 : decode b_Home_judge 31 = .ok (.getfield 23, 3) := by decide +kernel
theorem d_Home_judge_34 : decode b_Home_judge 34 = .ok (.iload_n 2, 1) := by decide +kernel
theorem d_Home_judge_35 : decode b_Home_judge 35 = .ok (.iaload, 1) := by decide +kernel
theorem d_Home_judge_36 : decode b_Home_judge 36 = .ok (.if_icmp .gt 9, 3) := by decide +kernel
theorem d_Home_judge_39 : decode b_Home_judge 39 = .ok (.sipush 133, 3) := by decide +kernel
theorem d_Home_judge_42 : decode b_Home_judge 42 = .ok (.goto 4, 3) := by decide +kernel
theorem d_Home_judge_45 : decode b_Home_judge 45 = .ok (.iconst 0, 1) := by decide +kernel
theorem d_Home_judge_46 : decode b_Home_judge 46 = .ok (.ireturn, 1) := by decide +kernel
theorem d_Home_takeRequest_0 : decode b_Home_takeRequest 0 = .ok (.aload_n 1, 1) := by decide +kernel
theorem d_Home_takeRequest_1 : decode b_Home_takeRequest 1 = .ok (.getfield 46, 3) := by decide +kernel
theorem d_Home_takeRequest_4 : decode b_Home_takeRequest 4 = .ok (.istore_n 2, 1) := by decide +kernel
theorem d_Home_takeRequest_5 : decode b_Home_takeRequest 5 = .ok (.aload_n 0, 1) := by decide +kernel
theorem d_Home_takeRequest_6 : decode b_Home_takeRequest 6 = .ok (.aload_n 1, 1) := by decide +kernel
theorem d_Home_takeRequest_7 : decode b_Home_takeRequest 7 = .ok (.invokevirtual 56, 3) := by decide +kernel
theorem d_Home_takeRequest_10 : decode b_Home_takeRequest 10 = .ok (.istore_n 3, 1) := by decide +kernel
theorem d_Home_takeRequest_11 : decode b_Home_takeRequest 11 = .ok (.iload_n 3, 1) := by decide +kernel
theorem d_Home_takeRequest_12 : decode b_Home_takeRequest 12 = .ok (.ifCond .ne 17, 3) := by decide +kernel
theorem d_Home_takeRequest_15 : decode b_Home_takeRequest 15 = .ok (.aload_n 1, 1) := by decide +kernel
theorem d_Home_takeRequest_16 : decode b_Home_takeRequest 16 = .ok (.getfield 60, 3) := by decide +kernel
theorem d_Home_takeRequest_19 : decode b_Home_takeRequest 19 = .ok (.aload_n 0, 1) := by decide +kernel
theorem d_Home_takeRequest_20 : decode b_Home_takeRequest 20 = .ok (.getfield 9, 3) := by decide +kernel
theorem d_Home_takeRequest_23 : decode b_Home_takeRequest 23 = .ok (.invokestatic 63, 3) := by decide +kernel
theorem d_Home_takeRequest_26 : decode b_Home_takeRequest 26 = .ok (.goto 4, 3) := by decide +kernel
theorem d_Home_takeRequest_29 : decode b_Home_takeRequest 29 = .ok (.iconst 0, 1) := by decide +kernel
theorem d_Home_takeRequest_30 : decode b_Home_takeRequest 30 = .ok (.istore 4, 2) := by decide +kernel
theorem d_Home_takeRequest_32 : decode b_Home_takeRequest 32 = .ok (.iload_n 3, 1) := by decide +kernel
theorem d_Home_takeRequest_33 : decode b_Home_takeRequest 33 = .ok (.ifCond .ne 39, 3) := by decide +kernel
theorem d_Home_takeRequest_36 : decode b_Home_takeRequest 36 = .ok (.aload_n 0, 1) := by decide +kernel
theorem d_Home_takeRequest_37 : decode b_Home_takeRequest 37 = .ok (.getfield 23, 3) := by decide +kernel
theorem d_Home_takeRequest_40 : decode b_Home_takeRequest 40 = .ok (.iload_n 2, 1) := by decide +kernel
theorem d_Home_takeRequest_41 : decode b_Home_takeRequest 41 = .ok (.aload_n 1, 1) := by decide +kernel
theorem d_Home_takeRequest_42 : decode b_Home_takeRequest 42 = .ok (.getfield 49, 3) := by decide +kernel
theorem d_Home_takeRequest_45 : decode b_Home_takeRequest 45 = .ok (.iastore, 1) := by decide +kernel
theorem d_Home_takeRequest_46 : decode b_Home_takeRequest 46 = .ok (.aload_n 0, 1) := by decide +kernel
theorem d_Home_takeRequest_47 : decode b_Home_takeRequest 47 = .ok (.getfield 26, 3) := by decide +kernel
theorem d_Home_takeRequest_50 : decode b_Home_takeRequest 50 = .ok (.iload_n 2, 1) := by decide +kernel
theorem d_Home_takeRequest_51 : decode b_Home_takeRequest 51 = .ok (.aload_n 1, 1) := by decide +kernel
theorem d_Home_takeRequest_52 : decode b_Home_takeRequest 52 = .ok (.getfield 69, 3) := by decide +kernel
theorem d_Home_takeRequest_55 : decode b_Home_takeRequest 55 = .ok (.iastore, 1) := by decide +kernel
theorem d_Home_takeRequest_56 : decode b_Home_takeRequest 56 = .ok (.aload_n 0, 1) := by decide +kernel
theorem d_Home_takeRequest_57 : decode b_Home_takeRequest 57 = .ok (.getfield 29, 3) := by decide +kernel
theorem d_Home_takeRequest_60 : decode b_Home_takeRequest 60 = .ok (.iload_n 2, 1) := by decide +kernel
theorem d_Home_takeRequest_61 : decode b_Home_takeRequest 61 = .ok (.aload_n 0, 1) := by decide +kernel
theorem d_Home_takeRequest_62 : decode b_Home_takeRequest 62 = .ok (.getfield 15, 3) := by decide +kernel
theorem d_Home_takeRequest_65 : decode b_Home_takeRequest 65 = .ok (.getfield 32, 3) := by decide +kernel
theorem d_Home_takeRequest_68 : decode b_Home_takeRequest 68 = .ok (.iload 4, 2) := by decide +kernel
theorem d_Home_takeRequest_70 : decode b_Home_takeRequest 70 = .ok (.iadd, 1) := by decide +kernel
theorem d_Home_takeRequest_71 : decode b_Home_takeRequest 71 = .ok (.iastore, 1) := by decide +kernel
theorem d_Home_takeRequest_72 : decode b_Home_takeRequest 72 = .ok (.aload_n 1, 1) := by decide +kernel
theorem d_Home_takeRequest_73 : decode b_Home_takeRequest 73 = .ok (.getfield 69, 3) := by decide +kernel
theorem d_Home_takeRequest_76 : decode b_Home_takeRequest 76 = .ok (.ifCond .ne 20, 3) := by decide +kernel
theorem d_Home_takeRequest_79 : decode b_Home_takeRequest 79 = .ok (.aload_n 0, 1) := by decide +kernel
theorem d_Home_takeRequest_80 : decode b_Home_takeRequest 80 = .ok (.getfield 15, 3) := by decide +kernel
theorem d_Home_takeRequest_83 : decode b_Home_takeRequest 83 = .ok (.iconst 0, 1) := by decide +kernel
theorem d_Home_takeRequest_84 : decode b_Home_takeRequest 84 = .ok (.iconst 3, 1) := by decide +kernel
theorem d_Home_takeRequest_85 : decode b_Home_takeRequest 85 = .ok (.iload_n 2, 1) := by decide +kernel
theorem d_Home_takeRequest_86 : decode b_Home_takeRequest 86 = .ok (.aload_n 1, 1) := by decide +kernel
theorem d_Home_takeRequest_87 : decode b_Home_takeRequest 87 = .ok (.getfield 49, 3) := by decide +kernel
theorem d_Home_takeRequest_90 : decode b_Home_takeRequest 90 = .ok (.invokevirtual 71, 3) := by decide +kernel
theorem d_Home_takeRequest_93 : decode b_Home_takeRequest 93 = .ok (.goto 20, 3) := by decide +kernel
theorem d_Home_takeRequest_96 : decode b_Home_takeRequest 96 = .ok (.aload_n 0, 1) := by decide +kernel
theorem d_Home_takeRequest_97 : decode b_Home_takeRequest 97 = .ok (.getfield 15, 3) := by decide +kernel
theorem d_Home_takeRequest_100 : decode b_Home_takeRequest 100 = .ok (.aload_n 1, 1) := by decide +kernel
theorem d_Home_takeRequest_101 : decode b_Home_takeRequest 101 = .ok (.getfield 69, 3) := by decide +kernel
theorem d_Home_takeRequest_104 : decode b_Home_takeRequest 104 = .ok (.iconst 3, 1) := by decide +kernel
theorem d_Home_takeRequest_105 : decode b_Home_takeRequest 105 = .ok (.iload_n 2, 1) := by decide +kernel
theorem d_Home_takeRequest_106 : decode b_Home_takeRequest 106 = .ok (.aload_n 1, 1) := by decide +kernel
theorem d_Home_takeRequest_107 : decode b_Home_takeRequest 107 = .ok (.getfield 49, 3) := by decide +kernel
theorem d_Home_takeRequest_110 : decode b_Home_takeRequest 110 = .ok (.invokevirtual 75, 3) := by decide +kernel
theorem d_Home_takeRequest_113 : decode b_Home_takeRequest 113 = .ok (.astore 5, 2) := by decide +kernel
theorem d_Home_takeRequest_115 : decode b_Home_takeRequest 115 = .ok (.aload 5, 2) := by decide +kernel
theorem d_Home_takeRequest_117 : decode b_Home_takeRequest 117 = .ok (.aload_n 1, 1) := by decide +kernel
theorem d_Home_takeRequest_118 : decode b_Home_takeRequest 118 = .ok (.getfield 69, 3) := by decide +kernel
theorem d_Home_takeRequest_121 : decode b_Home_takeRequest 121 = .ok (.putfield 69, 3) := by decide +kernel
theorem d_Home_takeRequest_124 : decode b_Home_takeRequest 124 = .ok (.aload 5, 2) := by decide +kernel
theorem d_Home_takeRequest_126 : decode b_Home_takeRequest 126 = .ok (.iload_n 3, 1) := by decide +kernel
theorem d_Home_takeRequest_127 : decode b_Home_takeRequest 127 = .ok (.putfield 78, 3) := by decide +kernel
theorem d_Home_takeRequest_130 : decode b_Home_takeRequest 130 = .ok (.aload 5, 2) := by decide +kernel
theorem d_Home_takeRequest_132 : decode b_Home_takeRequest 132 = .ok (.iload 4, 2) := by decide +kernel
theorem d_Home_takeRequest_134 : decode b_Home_takeRequest 134 = .ok (.putfield 60, 3) := by decide +kernel
theorem d_Home_takeRequest_137 : decode b_Home_takeRequest 137 = .ok (.aload 5, 2) := by decide +kernel
theorem d_Home_takeRequest_139 : decode b_Home_takeRequest 139 = .ok (.aload 5, 2) := by decide +kernel
theorem d_Home_takeRequest_141 : decode b_Home_takeRequest 141 = .ok (.aload_n 0, 1) := by decide +kernel
theorem d_Home_takeRequest_142 : decode b_Home_takeRequest 142 = .ok (.getfield 19, 3) := by decide +kernel
theorem d_Home_takeRequest_145 : decode b_Home_takeRequest 145 = .ok (.iload_n 2, 1) := by decide +kernel
theorem d_Home_takeRequest_146 : decode b_Home_takeRequest 146 = .ok (.iaload, 1) := by decide +kernel
theorem d_Home_takeRequest_147 : decode b_Home_takeRequest 147 = .ok (.invokevirtual 81, 3) := by decide +kernel
theorem d_Home_takeRequest_150 : decode b_Home_takeRequest 150 = .ok (.putfield 85, 3) := by decide +kernel
theorem d_Home_takeRequest_153 : decode b_Home_takeRequest 153 = .ok (.return_, 1) := by decide +kernel
theorem d_Home_takeData_0 : decode b_Home_takeData 0 = .ok (.aload_n 0, 1) := by decide +kernel
theorem d_Home_takeData_1 : decode b_Home_takeData 1 = .ok (.iload_n 1, 1) := by decide +kernel
theorem d_Home_takeData_2 : decode b_Home_takeData 2 = .ok (.invokevirtual 91, 3) := by decide +kernel
theorem d_Home_takeData_5 : decode b_Home_takeData 5 = .ok (.ifCond .eq 23, 3) := by decide +kernel
theorem d_Home_takeData_8 : decode b_Home_takeData 8 = .ok (.aload_n 0, 1) := by decide +kernel
theorem d_Home_takeData_9 : decode b_Home_takeData 9 = .ok (.getfield 15, 3) := by decide +kernel
theorem d_Home_takeData_12 : decode b_Home_takeData 12 = .ok (.aload_n 0, 1) := by decide +kernel
theorem d_Home_takeData_13 : decode b_Home_takeData 13 = .ok (.getfield 26, 3) := by decide +kernel
theorem d_Home_takeData_16 : decode b_Home_takeData 16 = .ok (.iload_n 1, 1) := by decide +kernel
theorem d_Home_takeData_17 : decode b_Home_takeData 17 = .ok (.iaload, 1) := by decide +kernel
theorem d_Home_takeData_18 : decode b_Home_takeData 18 = .ok (.iconst 5, 1) := by decide +kernel
theorem d_Home_takeData_19 : decode b_Home_takeData 19 = .ok (.iload_n 1, 1) := by decide +kernel
theorem d_Home_takeData_20 : decode b_Home_takeData 20 = .ok (.iload_n 2, 1) := by decide +kernel
theorem d_Home_takeData_21 : decode b_Home_takeData 21 = .ok (.invokevirtual 75, 3) := by decide +kernel
theorem d_Home_takeData_24 : decode b_Home_takeData 24 = .ok (.pop, 1) := by decide +kernel
theorem d_Home_takeData_25 : decode b_Home_takeData 25 = .ok (.goto 15, 3) := by decide +kernel
theorem d_Home_takeData_28 : decode b_Home_takeData 28 = .ok (.aload_n 0, 1) := by decide +kernel
theorem d_Home_takeData_29 : decode b_Home_takeData 29 = .ok (.getfield 15, 3) := by decide +kernel
theorem d_Home_takeData_32 : decode b_Home_takeData 32 = .ok (.iconst 0, 1) := by decide +kernel
theorem d_Home_takeData_33 : decode b_Home_takeData 33 = .ok (.iconst 4, 1) := by decide +kernel
theorem d_Home_takeData_34 : decode b_Home_takeData 34 = .ok (.iload_n 1, 1) := by decide +kernel
theorem d_Home_takeData_35 : decode b_Home_takeData 35 = .ok (.iload_n 2, 1) := by decide +kernel
theorem d_Home_takeData_36 : decode b_Home_takeData 36 = .ok (.invokevirtual 71, 3) := by decide +kernel
theorem d_Home_takeData_39 : decode b_Home_takeData 39 = .ok (.pop, 1) := by decide +kernel
theorem d_Home_takeData_40 : decode b_Home_takeData 40 = .ok (.return_, 1) := by decide +kernel
theorem d_Home_receive_0 : decode b_Home_receive 0 = .ok (.aload_n 1, 1) := by decide +kernel
theorem d_Home_receive_1 : decode b_Home_receive 1 = .ok (.getfield 37, 3) := by decide +kernel
theorem d_Home_receive_4 : decode b_Home_receive 4 = .ok (.iconst 2, 1) := by decide +kernel
theorem d_Home_receive_5 : decode b_Home_receive 5 = .ok (.if_icmp .ne 11, 3) := by decide +kernel
theorem d_Home_receive_8 : decode b_Home_receive 8 = .ok (.aload_n 0, 1) := by decide +kernel
theorem d_Home_receive_9 : decode b_Home_receive 9 = .ok (.aload_n 1, 1) := by decide +kernel
theorem d_Home_receive_10 : decode b_Home_receive 10 = .ok (.invokevirtual 42, 3) := by decide +kernel
theorem d_Home_receive_13 : decode b_Home_receive 13 = .ok (.goto 23, 3) := by decide +kernel
theorem d_Home_receive_16 : decode b_Home_receive 16 = .ok (.aload_n 1, 1) := by decide +kernel
theorem d_Home_receive_17 : decode b_Home_receive 17 = .ok (.getfield 37, 3) := by decide +kernel
theorem d_Home_receive_20 : decode b_Home_receive 20 = .ok (.iconst 4, 1) := by decide +kernel
theorem d_Home_receive_21 : decode b_Home_receive 21 = .ok (.if_icmp .ne 15, 3) := by decide +kernel
theorem d_Home_receive_24 : decode b_Home_receive 24 = .ok (.aload_n 0, 1) := by decide +kernel
theorem d_Home_receive_25 : decode b_Home_receive 25 = .ok (.aload_n 1, 1) := by decide +kernel
theorem d_Home_receive_26 : decode b_Home_receive 26 = .ok (.getfield 46, 3) := by decide +kernel
theorem d_Home_receive_29 : decode b_Home_receive 29 = .ok (.aload_n 1, 1) := by decide +kernel
theorem d_Home_receive_30 : decode b_Home_receive 30 = .ok (.getfield 49, 3) := by decide +kernel
theorem d_Home_receive_33 : decode b_Home_receive 33 = .ok (.invokevirtual 52, 3) := by decide +kernel
theorem d_Home_receive_36 : decode b_Home_receive 36 = .ok (.return_, 1) := by decide +kernel
theorem d_Fa_isVisited_0 : decode b_Fa_isVisited 0 = .ok (.aload_n 0, 1) := by decide +kernel
theorem d_Fa_isVisited_1 : decode b_Fa_isVisited 1 = .ok (.getfield 18, 3) := by decide +kernel
theorem d_Fa_isVisited_4 : decode b_Fa_isVisited 4 = .ok (.getfield 32, 3) := by decide +kernel
theorem d_Fa_isVisited_7 : decode b_Fa_isVisited 7 = .ok (.aload_n 0, 1) := by decide +kernel
theorem d_Fa_isVisited_8 : decode b_Fa_isVisited 8 = .ok (.getfield 22, 3) := by decide +kernel
theorem d_Fa_isVisited_11 : decode b_Fa_isVisited 11 = .ok (.iload_n 1, 1) := by decide +kernel
theorem d_Fa_isVisited_12 : decode b_Fa_isVisited 12 = .ok (.iaload, 1) := by decide +kernel
theorem d_Fa_isVisited_13 : decode b_Fa_isVisited 13 = .ok (.if_icmp .ge 7, 3) := by decide +kernel
theorem d_Fa_isVisited_16 : decode b_Fa_isVisited 16 = .ok (.iconst 1, 1) := by decide +kernel
theorem d_Fa_isVisited_17 : decode b_Fa_isVisited 17 = .ok (.goto 4, 3) := by decide +kernel
theorem d_Fa_isVisited_20 : decode b_Fa_isVisited 20 = .ok (.iconst 0, 1) := by decide +kernel
theorem d_Fa_isVisited_21 : decode b_Fa_isVisited 21 = .ok (.ireturn, 1) := by decide +kernel
theorem d_Fa_hasEntry_0 : decode b_Fa_hasEntry 0 = .ok (.aload_n 0, 1) := by decide +kernel
theorem d_Fa_hasEntry_1 : decode b_Fa_hasEntry 1 = .ok (.getfield 18, 3) := by decide +kernel
theorem d_Fa_hasEntry_4 : decode b_Fa_hasEntry 4 = .ok (.getfield 32, 3) := by decide +kernel
theorem d_Fa_hasEntry_7 : decode b_Fa_hasEntry 7 = .ok (.aload_n 0, 1) := by decide +kernel
theorem d_Fa_hasEntry_8 : decode b_Fa_hasEntry 8 = .ok (.getfield 29, 3) := by decide +kernel
theorem d_Fa_hasEntry_11 : decode b_Fa_hasEntry 11 = .ok (.iload_n 1, 1) := by decide +kernel
theorem d_Fa_hasEntry_12 : decode b_Fa_hasEntry 12 = .ok (.iaload, 1) := by decide +kernel
theorem d_Fa_hasEntry_13 : decode b_Fa_hasEntry 13 = .ok (.if_icmp .ge 7, 3) := by decide +kernel
theorem d_Fa_hasEntry_16 : decode b_Fa_hasEntry 16 = .ok (.iconst 1, 1) := by decide +kernel
theorem d_Fa_hasEntry_17 : decode b_Fa_hasEntry 17 = .ok (.goto 4, 3) := by decide +kernel
theorem d_Fa_hasEntry_20 : decode b_Fa_hasEntry 20 = .ok (.iconst 0, 1) := by decide +kernel
theorem d_Fa_hasEntry_21 : decode b_Fa_hasEntry 21 = .ok (.ireturn, 1) := by decide +kernel
theorem d_Fa_takesPlace_0 : decode b_Fa_takesPlace 0 = .ok (.aload_n 0, 1) := by decide +kernel
theorem d_Fa_takesPlace_1 : decode b_Fa_takesPlace 1 = .ok (.iload_n 1, 1) := by decide +kernel
theorem d_Fa_takesPlace_2 : decode b_Fa_takesPlace 2 = .ok (.invokevirtual 37, 3) := by decide +kernel
theorem d_Fa_takesPlace_5 : decode b_Fa_takesPlace 5 = .ok (.ifCond .ne 11, 3) := by decide +kernel
theorem d_Fa_takesPlace_8 : decode b_Fa_takesPlace 8 = .ok (.aload_n 0, 1) := by decide +kernel
theorem d_Fa_takesPlace_9 : decode b_Fa_takesPlace 9 = .ok (.iload_n 1, 1) := by decide +kernel
theorem d_Fa_takesPlace_10 : decode b_Fa_takesPlace 10 = .ok (.invokevirtual 41, 3) := by decide +kernel
theorem d_Fa_takesPlace_13 : decode b_Fa_takesPlace 13 = .ok (.ifCond .eq 7, 3) := by decide +kernel
theorem d_Fa_takesPlace_16 : decode b_Fa_takesPlace 16 = .ok (.iconst 1, 1) := by decide +kernel
theorem d_Fa_takesPlace_17 : decode b_Fa_takesPlace 17 = .ok (.goto 4, 3) := by decide +kernel
theorem d_Fa_takesPlace_20 : decode b_Fa_takesPlace 20 = .ok (.iconst 0, 1) := by decide +kernel
theorem d_Fa_takesPlace_21 : decode b_Fa_takesPlace 21 = .ok (.ireturn, 1) := by decide +kernel
theorem d_Fa_isCrowded_0 : decode b_Fa_isCrowded 0 = .ok (.iconst 0, 1) := by decide +kernel
theorem d_Fa_isCrowded_1 : decode b_Fa_isCrowded 1 = .ok (.istore_n 1, 1) := by decide +kernel
theorem d_Fa_isCrowded_2 : decode b_Fa_isCrowded 2 = .ok (.iconst 0, 1) := by decide +kernel
theorem d_Fa_isCrowded_3 : decode b_Fa_isCrowded 3 = .ok (.istore_n 2, 1) := by decide +kernel
theorem d_Fa_isCrowded_4 : decode b_Fa_isCrowded 4 = .ok (.iload_n 2, 1) := by decide +kernel
theorem d_Fa_isCrowded_5 : decode b_Fa_isCrowded 5 = .ok (.iconst 2, 1) := by decide +kernel
theorem d_Fa_isCrowded_6 : decode b_Fa_isCrowded 6 = .ok (.if_icmp .ge 20, 3) := by decide +kernel
theorem d_Fa_isCrowded_9 : decode b_Fa_isCrowded 9 = .ok (.aload_n 0, 1) := by decide +kernel
theorem d_Fa_isCrowded_10 : decode b_Fa_isCrowded 10 = .ok (.iload_n 2, 1) := by decide +kernel
theorem d_Fa_isCrowded_11 : decode b_Fa_isCrowded 11 = .ok (.invokevirtual 44, 3) := by decide +kernel
theorem d_Fa_isCrowded_14 : decode b_Fa_isCrowded 14 = .ok (.ifCond .eq 6, 3) := by decide +kernel
theorem d_Fa_isCrowded_17 : decode b_Fa_isCrowded 17 = .ok (.iinc 1 1, 3) := by decide +kernel
theorem d_Fa_isCrowded_20 : decode b_Fa_isCrowded 20 = .ok (.iinc 2 1, 3) := by decide +kernel
theorem d_Fa_isCrowded_23 : decode b_Fa_isCrowded 23 = .ok (.goto (-19), 3) := by decide +kernel
theorem d_Fa_isCrowded_26 : decode b_Fa_isCrowded 26 = .ok (.iload_n 1, 1) := by decide +kernel
theorem d_Fa_isCrowded_27 : decode b_Fa_isCrowded 27 = .ok (.aload_n 0, 1) := by decide +kernel
theorem d_Fa_isCrowded_28 : decode b_Fa_isCrowded 28 = .ok (.getfield 15, 3) := by decide +kernel
theorem d_Fa_isCrowded_31 : decode b_Fa_isCrowded 31 = .ok (.if_icmp .lt 7, 3) := by decide +kernel
theorem d_Fa_isCrowded_34 : decode b_Fa_isCrowded 34 = .ok (.iconst 1, 1) := by decide +kernel
theorem d_Fa_isCrowded_35 : decode b_Fa_isCrowded 35 = .ok (.goto 4, 3) := by decide +kernel
theorem d_Fa_isCrowded_38 : decode b_Fa_isCrowded 38 = .ok (.iconst 0, 1) := by decide +kernel
theorem d_Fa_isCrowded_39 : decode b_Fa_isCrowded 39 = .ok (.ireturn, 1) := by decide +kernel
theorem d_Fa_takeRequest_0 : decode b_Fa_takeRequest 0 = .ok (.aload_n 1, 1) := by decide +kernel
theorem d_Fa_takeRequest_1 : decode b_Fa_takeRequest 1 = .ok (.getfield 59, 3) := by decide +kernel
theorem d_Fa_takeRequest_4 : decode b_Fa_takeRequest 4 = .ok (.istore_n 2, 1) := by decide +kernel
theorem d_Fa_takeRequest_5 : decode b_Fa_takeRequest 5 = .ok (.aload_n 1, 1) := by decide +kernel
theorem d_Fa_takeRequest_6 : decode b_Fa_takeRequest 6 = .ok (.getfield 69, 3) := by decide +kernel
theorem d_Fa_takeRequest_9 : decode b_Fa_takeRequest 9 = .ok (.aload_n 0, 1) := by decide +kernel
theorem d_Fa_takeRequest_10 : decode b_Fa_takeRequest 10 = .ok (.getfield 9, 3) := by decide +kernel
theorem d_Fa_takeRequest_13 : decode b_Fa_takeRequest 13 = .ok (.if_icmp .eq 4, 3) := by decide +kernel
theorem d_Fa_takeRequest_16 : decode b_Fa_takeRequest 16 = .ok (.return_, 1) := by decide +kernel
theorem d_Fa_takeRequest_17 : decode b_Fa_takeRequest 17 = .ok (.aload_n 0, 1) := by decide +kernel
theorem d_Fa_takeRequest_18 : decode b_Fa_takeRequest 18 = .ok (.iload_n 2, 1) := by decide +kernel
theorem d_Fa_takeRequest_19 : decode b_Fa_takeRequest 19 = .ok (.invokevirtual 44, 3) := by decide +kernel
theorem d_Fa_takeRequest_22 : decode b_Fa_takeRequest 22 = .ok (.ifCond .ne 43, 3) := by decide +kernel
theorem d_Fa_takeRequest_25 : decode b_Fa_takeRequest 25 = .ok (.aload_n 0, 1) := by decide +kernel
theorem d_Fa_takeRequest_26 : decode b_Fa_takeRequest 26 = .ok (.invokevirtual 72, 3) := by decide +kernel
theorem d_Fa_takeRequest_29 : decode b_Fa_takeRequest 29 = .ok (.ifCond .eq 36, 3) := by decide +kernel
theorem d_Fa_takeRequest_32 : decode b_Fa_takeRequest 32 = .ok (.aload_n 0, 1) := by decide +kernel
theorem d_Fa_takeRequest_33 : decode b_Fa_takeRequest 33 = .ok (.getfield 18, 3) := by decide +kernel
theorem d_Fa_takeRequest_36 : decode b_Fa_takeRequest 36 = .ok (.aload_n 0, 1) := by decide +kernel
theorem d_Fa_takeRequest_37 : decode b_Fa_takeRequest 37 = .ok (.getfield 9, 3) := by decide +kernel
theorem d_Fa_takeRequest_40 : decode b_Fa_takeRequest 40 = .ok (.iconst 3, 1) := by decide +kernel
theorem d_Fa_takeRequest_41 : decode b_Fa_takeRequest 41 = .ok (.iload_n 2, 1) := by decide +kernel
theorem d_Fa_takeRequest_42 : decode b_Fa_takeRequest 42 = .ok (.aload_n 1, 1) := by decide +kernel
theorem d_Fa_takeRequest_43 : decode b_Fa_takeRequest 43 = .ok (.getfield 62, 3) := by decide +kernel
theorem d_Fa_takeRequest_46 : decode b_Fa_takeRequest 46 = .ok (.invokevirtual 76, 3) := by decide +kernel
theorem d_Fa_takeRequest_49 : decode b_Fa_takeRequest 49 = .ok (.astore_n 3, 1) := by decide +kernel
theorem d_Fa_takeRequest_50 : decode b_Fa_takeRequest 50 = .ok (.aload_n 3, 1) := by decide +kernel
theorem d_Fa_takeRequest_51 : decode b_Fa_takeRequest 51 = .ok (.aload_n 0, 1) := by decide +kernel
theorem d_Fa_takeRequest_52 : decode b_Fa_takeRequest 52 = .ok (.getfield 9, 3) := by decide +kernel
theorem d_Fa_takeRequest_55 : decode b_Fa_takeRequest 55 = .ok (.putfield 69, 3) := by decide +kernel
theorem d_Fa_takeRequest_58 : decode b_Fa_takeRequest 58 = .ok (.aload_n 3, 1) := by decide +kernel
theorem d_Fa_takeRequest_59 : decode b_Fa_takeRequest 59 = .ok (.bipush 66, 2) := by decide +kernel
theorem d_Fa_takeRequest_61 : decode b_Fa_takeRequest 61 = .ok (.putfield 80, 3) := by decide +kernel
theorem d_Fa_takeRequest_64 : decode b_Fa_takeRequest 64 = .ok (.return_, 1) := by decide +kernel
theorem d_Fa_takeRequest_65 : decode b_Fa_takeRequest 65 = .ok (.aload_n 0, 1) := by decide +kernel
theorem d_Fa_takeRequest_66 : decode b_Fa_takeRequest 66 = .ok (.getfield 26, 3) := by decide +kernel
theorem d_Fa_takeRequest_69 : decode b_Fa_takeRequest 69 = .ok (.iload_n 2, 1) := by decide +kernel
theorem d_Fa_takeRequest_70 : decode b_Fa_takeRequest 70 = .ok (.aload_n 1, 1) := by decide +kernel
theorem d_Fa_takeRequest_71 : decode b_Fa_takeRequest 71 = .ok (.getfield 62, 3) := by decide +kernel
theorem d_Fa_takeRequest_74 : decode b_Fa_takeRequest 74 = .ok (.iastore, 1) := by decide +kernel
theorem d_Fa_takeRequest_75 : decode b_Fa_takeRequest 75 = .ok (.aload_n 0, 1) := by decide +kernel
theorem d_Fa_takeRequest_76 : decode b_Fa_takeRequest 76 = .ok (.getfield 29, 3) := by decide +kernel
theorem d_Fa_takeRequest_79 : decode b_Fa_takeRequest 79 = .ok (.iload_n 2, 1) := by decide +kernel
theorem d_Fa_takeRequest_80 : decode b_Fa_takeRequest 80 = .ok (.aload_n 0, 1) := by decide +kernel
theorem d_Fa_takeRequest_81 : decode b_Fa_takeRequest 81 = .ok (.getfield 18, 3) := by decide +kernel
theorem d_Fa_takeRequest_84 : decode b_Fa_takeRequest 84 = .ok (.getfield 32, 3) := by decide +kernel
theorem d_Fa_takeRequest_87 : decode b_Fa_takeRequest 87 = .ok (.bipush 8, 2) := by decide +kernel
theorem d_Fa_takeRequest_89 : decode b_Fa_takeRequest 89 = .ok (.iadd, 1) := by decide +kernel
theorem d_Fa_takeRequest_90 : decode b_Fa_takeRequest 90 = .ok (.iastore, 1) := by decide +kernel
theorem d_Fa_takeRequest_91 : decode b_Fa_takeRequest 91 = .ok (.aload_n 0, 1) := by decide +kernel
theorem d_Fa_takeRequest_92 : decode b_Fa_takeRequest 92 = .ok (.getfield 18, 3) := by decide +kernel
theorem d_Fa_takeRequest_95 : decode b_Fa_takeRequest 95 = .ok (.aload_n 1, 1) := by decide +kernel
theorem d_Fa_takeRequest_96 : decode b_Fa_takeRequest 96 = .ok (.iconst 0, 1) := by decide +kernel
theorem d_Fa_takeRequest_97 : decode b_Fa_takeRequest 97 = .ok (.iconst (-1), 1) := by decide +kernel
theorem d_Fa_takeRequest_98 : decode b_Fa_takeRequest 98 = .ok (.invokevirtual 83, 3) := by decide +kernel
theorem d_Fa_takeRequest_101 : decode b_Fa_takeRequest 101 = .ok (.return_, 1) := by decide +kernel
theorem d_Fa_takeReply_0 : decode b_Fa_takeReply 0 = .ok (.aload_n 1, 1) := by decide +kernel
theorem d_Fa_takeReply_1 : decode b_Fa_takeReply 1 = .ok (.getfield 59, 3) := by decide +kernel
theorem d_Fa_takeReply_4 : decode b_Fa_takeReply 4 = .ok (.istore_n 2, 1) := by decide +kernel
theorem d_Fa_takeReply_5 : decode b_Fa_takeReply 5 = .ok (.aload_n 0, 1) := by decide +kernel
theorem d_Fa_takeReply_6 : decode b_Fa_takeReply 6 = .ok (.iload_n 2, 1) := by decide +kernel
theorem d_Fa_takeReply_7 : decode b_Fa_takeReply 7 = .ok (.invokevirtual 41, 3) := by decide +kernel
theorem d_Fa_takeReply_10 : decode b_Fa_takeReply 10 = .ok (.ifCond .eq 16, 3) := by decide +kernel
theorem d_Fa_takeReply_13 : decode b_Fa_takeReply 13 = .ok (.aload_n 0, 1) := by decide +kernel
theorem d_Fa_takeReply_14 : decode b_Fa_takeReply 14 = .ok (.getfield 26, 3) := by decide +kernel
theorem d_Fa_takeReply_17 : decode b_Fa_takeReply 17 = .ok (.iload_n 2, 1) := by decide +kernel
theorem d_Fa_takeReply_18 : decode b_Fa_takeReply 18 = .ok (.iaload, 1) := by decide +kernel
theorem d_Fa_takeReply_19 : decode b_Fa_takeReply 19 = .ok (.aload_n 1, 1) := by decide +kernel
theorem d_Fa_takeReply_20 : decode b_Fa_takeReply 20 = .ok (.getfield 62, 3) := by decide +kernel
theorem d_Fa_takeReply_23 : decode b_Fa_takeReply 23 = .ok (.if_icmp .eq 4, 3) := by decide +kernel
theorem d_Fa_takeReply_26 : decode b_Fa_takeReply 26 = .ok (.return_, 1) := by decide +kernel
theorem d_Fa_takeReply_27 : decode b_Fa_takeReply 27 = .ok (.aload_n 0, 1) := by decide +kernel
theorem d_Fa_takeReply_28 : decode b_Fa_takeReply 28 = .ok (.getfield 29, 3) := by decide +kernel
theorem d_Fa_takeReply_31 : decode b_Fa_takeReply 31 = .ok (.iload_n 2, 1) := by decide +kernel
theorem d_Fa_takeReply_32 : decode b_Fa_takeReply 32 = .ok (.iconst 0, 1) := by decide +kernel
theorem d_Fa_takeReply_33 : decode b_Fa_takeReply 33 = .ok (.iastore, 1) := by decide +kernel
theorem d_Fa_takeReply_34 : decode b_Fa_takeReply 34 = .ok (.aload_n 1, 1) := by decide +kernel
theorem d_Fa_takeReply_35 : decode b_Fa_takeReply 35 = .ok (.getfield 80, 3) := by decide +kernel
theorem d_Fa_takeReply_38 : decode b_Fa_takeReply 38 = .ok (.ifCond .ne 21, 3) := by decide +kernel
theorem d_Fa_takeReply_41 : decode b_Fa_takeReply 41 = .ok (.aload_n 0, 1) := by decide +kernel
theorem d_Fa_takeReply_42 : decode b_Fa_takeReply 42 = .ok (.getfield 22, 3) := by decide +kernel
theorem d_Fa_takeReply_45 : decode b_Fa_takeReply 45 = .ok (.iload_n 2, 1) := by decide +kernel
theorem d_Fa_takeReply_46 : decode b_Fa_takeReply 46 = .ok (.aload_n 0, 1) := by decide +kernel
theorem d_Fa_takeReply_47 : decode b_Fa_takeReply 47 = .ok (.getfield 18, 3) := by decide +kernel
theorem d_Fa_takeReply_50 : decode b_Fa_takeReply 50 = .ok (.getfield 32, 3) := by decide +kernel
theorem d_Fa_takeReply_53 : decode b_Fa_takeReply 53 = .ok (.aload_n 1, 1) := by decide +kernel
theorem d_Fa_takeReply_54 : decode b_Fa_takeReply 54 = .ok (.getfield 87, 3) := by decide +kernel
theorem d_Fa_takeReply_57 : decode b_Fa_takeReply 57 = .ok (.iadd, 1) := by decide +kernel
theorem d_Fa_takeReply_58 : decode b_Fa_takeReply 58 = .ok (.iastore, 1) := by decide +kernel
theorem d_Fa_takeReply_59 : decode b_Fa_takeReply 59 = .ok (.aload_n 0, 1) := by decide +kernel
theorem d_Fa_takeReply_60 : decode b_Fa_takeReply 60 = .ok (.getfield 18, 3) := by decide +kernel
theorem d_Fa_takeReply_63 : decode b_Fa_takeReply 63 = .ok (.aload_n 1, 1) := by decide +kernel
theorem d_Fa_takeReply_64 : decode b_Fa_takeReply 64 = .ok (.iconst 5, 1) := by decide +kernel
theorem d_Fa_takeReply_65 : decode b_Fa_takeReply 65 = .ok (.aload_n 0, 1) := by decide +kernel
theorem d_Fa_takeReply_66 : decode b_Fa_takeReply 66 = .ok (.getfield 9, 3) := by decide +kernel
theorem d_Fa_takeReply_69 : decode b_Fa_takeReply 69 = .ok (.invokevirtual 83, 3) := by decide +kernel
theorem d_Fa_takeReply_72 : decode b_Fa_takeReply 72 = .ok (.return_, 1) := by decide +kernel
theorem d_Fa_takeTunnel_0 : decode b_Fa_takeTunnel 0 = .ok (.aload_n 0, 1) := by decide +kernel
theorem d_Fa_takeTunnel_1 : decode b_Fa_takeTunnel 1 = .ok (.iload_n 1, 1) := by decide +kernel
theorem d_Fa_takeTunnel_2 : decode b_Fa_takeTunnel 2 = .ok (.invokevirtual 37, 3) := by decide +kernel
theorem d_Fa_takeTunnel_5 : decode b_Fa_takeTunnel 5 = .ok (.ifCond .eq 18, 3) := by decide +kernel
theorem d_Fa_takeTunnel_8 : decode b_Fa_takeTunnel 8 = .ok (.aload_n 0, 1) := by decide +kernel
theorem d_Fa_takeTunnel_9 : decode b_Fa_takeTunnel 9 = .ok (.getfield 18, 3) := by decide +kernel
theorem d_Fa_takeTunnel_12 : decode b_Fa_takeTunnel 12 = .ok (.aload_n 0, 1) := by decide +kernel
theorem d_Fa_takeTunnel_13 : decode b_Fa_takeTunnel 13 = .ok (.getfield 9, 3) := by decide +kernel
theorem d_Fa_takeTunnel_16 : decode b_Fa_takeTunnel 16 = .ok (.iconst 4, 1) := by decide +kernel
theorem d_Fa_takeTunnel_17 : decode b_Fa_takeTunnel 17 = .ok (.iload_n 1, 1) := by decide +kernel
theorem d_Fa_takeTunnel_18 : decode b_Fa_takeTunnel 18 = .ok (.iload_n 2, 1) := by decide +kernel
theorem d_Fa_takeTunnel_19 : decode b_Fa_takeTunnel 19 = .ok (.invokevirtual 76, 3) := by decide +kernel
theorem d_Fa_takeTunnel_22 : decode b_Fa_takeTunnel 22 = .ok (.pop, 1) := by decide +kernel
theorem d_Fa_takeTunnel_23 : decode b_Fa_takeTunnel 23 = .ok (.return_, 1) := by decide +kernel
theorem d_Fa_receive_0 : decode b_Fa_receive 0 = .ok (.aload_n 1, 1) := by decide +kernel
theorem d_Fa_receive_1 : decode b_Fa_receive 1 = .ok (.getfield 47, 3) := by decide +kernel
theorem d_Fa_receive_4 : decode b_Fa_receive 4 = .ok (.iconst 2, 1) := by decide +kernel
theorem d_Fa_receive_5 : decode b_Fa_receive 5 = .ok (.if_icmp .ne 11, 3) := by decide +kernel
theorem d_Fa_receive_8 : decode b_Fa_receive 8 = .ok (.aload_n 0, 1) := by decide +kernel
theorem d_Fa_receive_9 : decode b_Fa_receive 9 = .ok (.aload_n 1, 1) := by decide +kernel
theorem d_Fa_receive_10 : decode b_Fa_receive 10 = .ok (.invokevirtual 52, 3) := by decide +kernel
theorem d_Fa_receive_13 : decode b_Fa_receive 13 = .ok (.goto 39, 3) := by decide +kernel
theorem d_Fa_receive_16 : decode b_Fa_receive 16 = .ok (.aload_n 1, 1) := by decide +kernel
theorem d_Fa_receive_17 : decode b_Fa_receive 17 = .ok (.getfield 47, 3) := by decide +kernel
theorem d_Fa_receive_20 : decode b_Fa_receive 20 = .ok (.iconst 3, 1) := by decide +kernel
theorem d_Fa_receive_21 : decode b_Fa_receive 21 = .ok (.if_icmp .ne 11, 3) := by decide +kernel
theorem d_Fa_receive_24 : decode b_Fa_receive 24 = .ok (.aload_n 0, 1) := by decide +kernel
theorem d_Fa_receive_25 : decode b_Fa_receive 25 = .ok (.aload_n 1, 1) := by decide +kernel
theorem d_Fa_receive_26 : decode b_Fa_receive 26 = .ok (.invokevirtual 56, 3) := by decide +kernel
theorem d_Fa_receive_29 : decode b_Fa_receive 29 = .ok (.goto 23, 3) := by decide +kernel
theorem d_Fa_receive_32 : decode b_Fa_receive 32 = .ok (.aload_n 1, 1) := by decide +kernel
theorem d_Fa_receive_33 : decode b_Fa_receive 33 = .ok (.getfield 47, 3) := by decide +kernel
theorem d_Fa_receive_36 : decode b_Fa_receive 36 = .ok (.iconst 5, 1) := by decide +kernel
theorem d_Fa_receive_37 : decode b_Fa_receive 37 = .ok (.if_icmp .ne 15, 3) := by decide +kernel
theorem d_Fa_receive_40 : decode b_Fa_receive 40 = .ok (.aload_n 0, 1) := by decide +kernel
theorem d_Fa_receive_41 : decode b_Fa_receive 41 = .ok (.aload_n 1, 1) := by decide +kernel
theorem d_Fa_receive_42 : decode b_Fa_receive 42 = .ok (.getfield 59, 3) := by decide +kernel
theorem d_Fa_receive_45 : decode b_Fa_receive 45 = .ok (.aload_n 1, 1) := by decide +kernel
theorem d_Fa_receive_46 : decode b_Fa_receive 46 = .ok (.getfield 62, 3) := by decide +kernel
theorem d_Fa_receive_49 : decode b_Fa_receive 49 = .ok (.invokevirtual 65, 3) := by decide +kernel
theorem d_Fa_receive_52 : decode b_Fa_receive 52 = .ok (.return_, 1) := by decide +kernel
theorem d_Wire_remove_0 : decode b_Wire_remove 0 = .ok (.aload_n 0, 1) := by decide +kernel
theorem d_Wire_remove_1 : decode b_Wire_remove 1 = .ok (.getfield 11, 3) := by decide +kernel
theorem d_Wire_remove_4 : decode b_Wire_remove 4 = .ok (.iload_n 1, 1) := by decide +kernel
theorem d_Wire_remove_5 : decode b_Wire_remove 5 = .ok (.aaload, 1) := by decide +kernel
theorem d_Wire_remove_6 : decode b_Wire_remove 6 = .ok (.astore_n 2, 1) := by decide +kernel
theorem d_Wire_remove_7 : decode b_Wire_remove 7 = .ok (.iload_n 1, 1) := by decide +kernel
theorem d_Wire_remove_8 : decode b_Wire_remove 8 = .ok (.iconst 1, 1) := by decide +kernel
theorem d_Wire_remove_9 : decode b_Wire_remove 9 = .ok (.iadd, 1) := by decide +kernel
theorem d_Wire_remove_10 : decode b_Wire_remove 10 = .ok (.istore_n 3, 1) := by decide +kernel
theorem d_Wire_remove_11 : decode b_Wire_remove 11 = .ok (.iload_n 3, 1) := by decide +kernel
theorem d_Wire_remove_12 : decode b_Wire_remove 12 = .ok (.aload_n 0, 1) := by decide +kernel
theorem d_Wire_remove_13 : decode b_Wire_remove 13 = .ok (.getfield 18, 3) := by decide +kernel
theorem d_Wire_remove_16 : decode b_Wire_remove 16 = .ok (.if_icmp .ge 23, 3) := by decide +kernel
theorem d_Wire_remove_19 : decode b_Wire_remove 19 = .ok (.aload_n 0, 1) := by decide +kernel
theorem d_Wire_remove_20 : decode b_Wire_remove 20 = .ok (.getfield 11, 3) := by decide +kernel
theorem d_Wire_remove_23 : decode b_Wire_remove 23 = .ok (.iload_n 3, 1) := by decide +kernel
theorem d_Wire_remove_24 : decode b_Wire_remove 24 = .ok (.iconst 1, 1) := by decide +kernel
theorem d_Wire_remove_25 : decode b_Wire_remove 25 = .ok (.isub, 1) := by decide +kernel
theorem d_Wire_remove_26 : decode b_Wire_remove 26 = .ok (.aload_n 0, 1) := by decide +kernel
theorem d_Wire_remove_27 : decode b_Wire_remove 27 = .ok (.getfield 11, 3) := by decide +kernel
theorem d_Wire_remove_30 : decode b_Wire_remove 30 = .ok (.iload_n 3, 1) := by decide +kernel
theorem d_Wire_remove_31 : decode b_Wire_remove 31 = .ok (.aaload, 1) := by decide +kernel
theorem d_Wire_remove_32 : decode b_Wire_remove 32 = .ok (.aastore, 1) := by decide +kernel
theorem d_Wire_remove_33 : decode b_Wire_remove 33 = .ok (.iinc 3 1, 3) := by decide +kernel
theorem d_Wire_remove_36 : decode b_Wire_remove 36 = .ok (.goto (-25), 3) := by decide +kernel
theorem d_Wire_remove_39 : decode b_Wire_remove 39 = .ok (.aload_n 0, 1) := by decide +kernel
theorem d_Wire_remove_40 : decode b_Wire_remove 40 = .ok (.dup, 1) := by decide +kernel
theorem d_Wire_remove_41 : decode b_Wire_remove 41 = .ok (.getfield 18, 3) := by decide +kernel
theorem d_Wire_remove_44 : decode b_Wire_remove 44 = .ok (.iconst 1, 1) := by decide +kernel
theorem d_Wire_remove_45 : decode b_Wire_remove 45 = .ok (.isub, 1) := by decide +kernel
theorem d_Wire_remove_46 : decode b_Wire_remove 46 = .ok (.putfield 18, 3) := by decide +kernel
theorem d_Wire_remove_49 : decode b_Wire_remove 49 = .ok (.aload_n 0, 1) := by decide +kernel
theorem d_Wire_remove_50 : decode b_Wire_remove 50 = .ok (.getfield 11, 3) := by decide +kernel
theorem d_Wire_remove_53 : decode b_Wire_remove 53 = .ok (.aload_n 0, 1) := by decide +kernel
theorem d_Wire_remove_54 : decode b_Wire_remove 54 = .ok (.getfield 18, 3) := by decide +kernel
theorem d_Wire_remove_57 : decode b_Wire_remove 57 = .ok (.aload_n 2, 1) := by decide +kernel
theorem d_Wire_remove_58 : decode b_Wire_remove 58 = .ok (.aastore, 1) := by decide +kernel
theorem d_Wire_remove_59 : decode b_Wire_remove 59 = .ok (.return_, 1) := by decide +kernel
theorem d_Corr_pump_0 : decode b_Corr_pump 0 = .ok (.aload_n 0, 1) := by decide +kernel
theorem d_Corr_pump_1 : decode b_Corr_pump 1 = .ok (.getfield 19, 3) := by decide +kernel
theorem d_Corr_pump_4 : decode b_Corr_pump 4 = .ok (.iload_n 1, 1) := by decide +kernel
theorem d_Corr_pump_5 : decode b_Corr_pump 5 = .ok (.iaload, 1) := by decide +kernel
theorem d_Corr_pump_6 : decode b_Corr_pump 6 = .ok (.aload_n 0, 1) := by decide +kernel
theorem d_Corr_pump_7 : decode b_Corr_pump 7 = .ok (.getfield 15, 3) := by decide +kernel
theorem d_Corr_pump_10 : decode b_Corr_pump 10 = .ok (.iload_n 1, 1) := by decide +kernel
theorem d_Corr_pump_11 : decode b_Corr_pump 11 = .ok (.iaload, 1) := by decide +kernel
theorem d_Corr_pump_12 : decode b_Corr_pump 12 = .ok (.if_icmp .ge 63, 3) := by decide +kernel
theorem d_Corr_pump_15 : decode b_Corr_pump 15 = .ok (.aload_n 0, 1) := by decide +kernel
theorem d_Corr_pump_16 : decode b_Corr_pump 16 = .ok (.getfield 19, 3) := by decide +kernel
theorem d_Corr_pump_19 : decode b_Corr_pump 19 = .ok (.iload_n 1, 1) := by decide +kernel
theorem d_Corr_pump_20 : decode b_Corr_pump 20 = .ok (.iaload, 1) := by decide +kernel
theorem d_Corr_pump_21 : decode b_Corr_pump 21 = .ok (.aload_n 0, 1) := by decide +kernel
theorem d_Corr_pump_22 : decode b_Corr_pump 22 = .ok (.getfield 22, 3) := by decide +kernel
theorem d_Corr_pump_25 : decode b_Corr_pump 25 = .ok (.iload_n 1, 1) := by decide +kernel
theorem d_Corr_pump_26 : decode b_Corr_pump 26 = .ok (.iaload, 1) := by decide +kernel
theorem d_Corr_pump_27 : decode b_Corr_pump 27 = .ok (.iconst 3, 1) := by decide +kernel
theorem d_Corr_pump_28 : decode b_Corr_pump 28 = .ok (.iadd, 1) := by decide +kernel
theorem d_Corr_pump_29 : decode b_Corr_pump 29 = .ok (.if_icmp .ge 46, 3) := by decide +kernel
theorem d_Corr_pump_32 : decode b_Corr_pump 32 = .ok (.aload_n 0, 1) := by decide +kernel
theorem d_Corr_pump_33 : decode b_Corr_pump 33 = .ok (.getfield 19, 3) := by decide +kernel
theorem d_Corr_pump_36 : decode b_Corr_pump 36 = .ok (.iload_n 1, 1) := by decide +kernel
theorem d_Corr_pump_37 : decode b_Corr_pump 37 = .ok (.dup2, 1) := by decide +kernel
theorem d_Corr_pump_38 : decode b_Corr_pump 38 = .ok (.iaload, 1) := by decide +kernel
theorem d_Corr_pump_39 : decode b_Corr_pump 39 = .ok (.iconst 1, 1) := by decide +kernel
theorem d_Corr_pump_40 : decode b_Corr_pump 40 = .ok (.iadd, 1) := by decide +kernel
theorem d_Corr_pump_41 : decode b_Corr_pump 41 = .ok (.iastore, 1) := by decide +kernel
theorem d_Corr_pump_42 : decode b_Corr_pump 42 = .ok (.aload_n 0, 1) := by decide +kernel
theorem d_Corr_pump_43 : decode b_Corr_pump 43 = .ok (.getfield 9, 3) := by decide +kernel
theorem d_Corr_pump_46 : decode b_Corr_pump 46 = .ok (.iconst 0, 1) := by decide +kernel
theorem d_Corr_pump_47 : decode b_Corr_pump 47 = .ok (.iconst 4, 1) := by decide +kernel
theorem d_Corr_pump_48 : decode b_Corr_pump 48 = .ok (.iload_n 1, 1) := by decide +kernel
theorem d_Corr_pump_49 : decode b_Corr_pump 49 = .ok (.aload_n 0, 1) := by decide +kernel
theorem d_Corr_pump_50 : decode b_Corr_pump 50 = .ok (.getfield 19, 3) := by decide +kernel
theorem d_Corr_pump_53 : decode b_Corr_pump 53 = .ok (.iload_n 1, 1) := by decide +kernel
theorem d_Corr_pump_54 : decode b_Corr_pump 54 = .ok (.iaload, 1) := by decide +kernel
theorem d_Corr_pump_55 : decode b_Corr_pump 55 = .ok (.invokevirtual 28, 3) := by decide +kernel
theorem d_Corr_pump_58 : decode b_Corr_pump 58 = .ok (.pop, 1) := by decide +kernel
theorem d_Corr_pump_59 : decode b_Corr_pump 59 = .ok (.aload_n 0, 1) := by decide +kernel
theorem d_Corr_pump_60 : decode b_Corr_pump 60 = .ok (.getfield 25, 3) := by decide +kernel
theorem d_Corr_pump_63 : decode b_Corr_pump 63 = .ok (.iload_n 1, 1) := by decide +kernel
theorem d_Corr_pump_64 : decode b_Corr_pump 64 = .ok (.aload_n 0, 1) := by decide +kernel
theorem d_Corr_pump_65 : decode b_Corr_pump 65 = .ok (.getfield 9, 3) := by decide +kernel
theorem d_Corr_pump_68 : decode b_Corr_pump 68 = .ok (.getfield 34, 3) := by decide +kernel
theorem d_Corr_pump_71 : decode b_Corr_pump 71 = .ok (.iastore, 1) := by decide +kernel
theorem d_Corr_pump_72 : decode b_Corr_pump 72 = .ok (.goto (-72), 3) := by decide +kernel
theorem d_Corr_pump_75 : decode b_Corr_pump 75 = .ok (.return_, 1) := by decide +kernel
theorem d_Corr_resendIfDue_0 : decode b_Corr_resendIfDue 0 = .ok (.aload_n 0, 1) := by decide +kernel
theorem d_Corr_resendIfDue_1 : decode b_Corr_resendIfDue 1 = .ok (.getfield 19, 3) := by decide +kernel
theorem d_Corr_resendIfDue_4 : decode b_Corr_resendIfDue 4 = .ok (.iload_n 1, 1) := by decide +kernel
theorem d_Corr_resendIfDue_5 : decode b_Corr_resendIfDue 5 = .ok (.iaload, 1) := by decide +kernel
theorem d_Corr_resendIfDue_6 : decode b_Corr_resendIfDue 6 = .ok (.aload_n 0, 1) := by decide +kernel
theorem d_Corr_resendIfDue_7 : decode b_Corr_resendIfDue 7 = .ok (.getfield 22, 3) := by decide +kernel
theorem d_Corr_resendIfDue_10 : decode b_Corr_resendIfDue 10 = .ok (.iload_n 1, 1) := by decide +kernel
theorem d_Corr_resendIfDue_11 : decode b_Corr_resendIfDue 11 = .ok (.iaload, 1) := by decide +kernel
theorem d_Corr_resendIfDue_12 : decode b_Corr_resendIfDue 12 = .ok (.if_icmp .le 21, 3) := by decide +kernel
theorem d_Corr_resendIfDue_15 : decode b_Corr_resendIfDue 15 = .ok (.aload_n 0, 1) := by decide +kernel
theorem d_Corr_resendIfDue_16 : decode b_Corr_resendIfDue 16 = .ok (.getfield 9, 3) := by decide +kernel
theorem d_Corr_resendIfDue_19 : decode b_Corr_resendIfDue 19 = .ok (.getfield 34, 3) := by decide +kernel
theorem d_Corr_resendIfDue_22 : decode b_Corr_resendIfDue 22 = .ok (.aload_n 0, 1) := by decide +kernel
theorem d_Corr_resendIfDue_23 : decode b_Corr_resendIfDue 23 = .ok (.getfield 25, 3) := by decide +kernel
theorem d_Corr_resendIfDue_26 : decode b_Corr_resendIfDue 26 = .ok (.iload_n 1, 1) := by decide +kernel
theorem d_Corr_resendIfDue_27 : decode b_Corr_resendIfDue 27 = .ok (.iaload, 1) := by decide +kernel
theorem d_Corr_resendIfDue_28 : decode b_Corr_resendIfDue 28 = .ok (.isub, 1) := by decide +kernel
theorem d_Corr_resendIfDue_29 : decode b_Corr_resendIfDue 29 = .ok (.iconst 5, 1) := by decide +kernel
theorem d_Corr_resendIfDue_30 : decode b_Corr_resendIfDue 30 = .ok (.if_icmp .ge 4, 3) := by decide +kernel
theorem d_Corr_resendIfDue_33 : decode b_Corr_resendIfDue 33 = .ok (.return_, 1) := by decide +kernel
theorem d_Corr_resendIfDue_34 : decode b_Corr_resendIfDue 34 = .ok (.aload_n 0, 1) := by decide +kernel
theorem d_Corr_resendIfDue_35 : decode b_Corr_resendIfDue 35 = .ok (.getfield 22, 3) := by decide +kernel
theorem d_Corr_resendIfDue_38 : decode b_Corr_resendIfDue 38 = .ok (.iload_n 1, 1) := by decide +kernel
theorem d_Corr_resendIfDue_39 : decode b_Corr_resendIfDue 39 = .ok (.iaload, 1) := by decide +kernel
theorem d_Corr_resendIfDue_40 : decode b_Corr_resendIfDue 40 = .ok (.iconst 1, 1) := by decide +kernel
theorem d_Corr_resendIfDue_41 : decode b_Corr_resendIfDue 41 = .ok (.iadd, 1) := by decide +kernel
theorem d_Corr_resendIfDue_42 : decode b_Corr_resendIfDue 42 = .ok (.istore_n 2, 1) := by decide +kernel
theorem d_Corr_resendIfDue_43 : decode b_Corr_resendIfDue 43 = .ok (.iload_n 2, 1) := by decide +kernel
theorem d_Corr_resendIfDue_44 : decode b_Corr_resendIfDue 44 = .ok (.aload_n 0, 1) := by decide +kernel
theorem d_Corr_resendIfDue_45 : decode b_Corr_resendIfDue 45 = .ok (.getfield 19, 3) := by decide +kernel
theorem d_Corr_resendIfDue_48 : decode b_Corr_resendIfDue 48 = .ok (.iload_n 1, 1) := by decide +kernel
theorem d_Corr_resendIfDue_49 : decode b_Corr_resendIfDue 49 = .ok (.iaload, 1) := by decide +kernel
theorem d_Corr_resendIfDue_50 : decode b_Corr_resendIfDue 50 = .ok (.if_icmp .gt 21, 3) := by decide +kernel
theorem d_Corr_resendIfDue_53 : decode b_Corr_resendIfDue 53 = .ok (.aload_n 0, 1) := by decide +kernel
theorem d_Corr_resendIfDue_54 : decode b_Corr_resendIfDue 54 = .ok (.getfield 9, 3) := by decide +kernel
theorem d_Corr_resendIfDue_57 : decode b_Corr_resendIfDue 57 = .ok (.iconst 0, 1) := by decide +kernel
theorem d_Corr_resendIfDue_58 : decode b_Corr_resendIfDue 58 = .ok (.iconst 4, 1) := by decide +kernel
theorem d_Corr_resendIfDue_59 : decode b_Corr_resendIfDue 59 = .ok (.iload_n 1, 1) := by decide +kernel
theorem d_Corr_resendIfDue_60 : decode b_Corr_resendIfDue 60 = .ok (.iload_n 2, 1) := by decide +kernel
theorem d_Corr_resendIfDue_61 : decode b_Corr_resendIfDue 61 = .ok (.invokevirtual 28, 3) := by decide +kernel
theorem d_Corr_resendIfDue_64 : decode b_Corr_resendIfDue 64 = .ok (.pop, 1) := by decide +kernel
theorem d_Corr_resendIfDue_65 : decode b_Corr_resendIfDue 65 = .ok (.iinc 2 1, 3) := by decide +kernel
theorem d_Corr_resendIfDue_68 : decode b_Corr_resendIfDue 68 = .ok (.goto (-25), 3) := by decide +kernel
theorem d_Corr_resendIfDue_71 : decode b_Corr_resendIfDue 71 = .ok (.aload_n 0, 1) := by decide +kernel
theorem d_Corr_resendIfDue_72 : decode b_Corr_resendIfDue 72 = .ok (.getfield 25, 3) := by decide +kernel
theorem d_Corr_resendIfDue_75 : decode b_Corr_resendIfDue 75 = .ok (.iload_n 1, 1) := by decide +kernel
theorem d_Corr_resendIfDue_76 : decode b_Corr_resendIfDue 76 = .ok (.aload_n 0, 1) := by decide +kernel
theorem d_Corr_resendIfDue_77 : decode b_Corr_resendIfDue 77 = .ok (.getfield 9, 3) := by decide +kernel
theorem d_Corr_resendIfDue_80 : decode b_Corr_resendIfDue 80 = .ok (.getfield 34, 3) := by decide +kernel
theorem d_Corr_resendIfDue_83 : decode b_Corr_resendIfDue 83 = .ok (.iastore, 1) := by decide +kernel
theorem d_Corr_resendIfDue_84 : decode b_Corr_resendIfDue 84 = .ok (.return_, 1) := by decide +kernel
theorem d_Corr_receive_0 : decode b_Corr_receive 0 = .ok (.aload_n 1, 1) := by decide +kernel
theorem d_Corr_receive_1 : decode b_Corr_receive 1 = .ok (.getfield 38, 3) := by decide +kernel
theorem d_Corr_receive_4 : decode b_Corr_receive 4 = .ok (.istore_n 2, 1) := by decide +kernel
theorem d_Corr_receive_5 : decode b_Corr_receive 5 = .ok (.aload_n 1, 1) := by decide +kernel
theorem d_Corr_receive_6 : decode b_Corr_receive 6 = .ok (.getfield 43, 3) := by decide +kernel
theorem d_Corr_receive_9 : decode b_Corr_receive 9 = .ok (.bipush 6, 2) := by decide +kernel
theorem d_Corr_receive_11 : decode b_Corr_receive 11 = .ok (.if_icmp .ne 44, 3) := by decide +kernel
theorem d_Corr_receive_14 : decode b_Corr_receive 14 = .ok (.aload_n 1, 1) := by decide +kernel
theorem d_Corr_receive_15 : decode b_Corr_receive 15 = .ok (.getfield 46, 3) := by decide +kernel
theorem d_Corr_receive_18 : decode b_Corr_receive 18 = .ok (.aload_n 0, 1) := by decide +kernel
theorem d_Corr_receive_19 : decode b_Corr_receive 19 = .ok (.getfield 22, 3) := by decide +kernel
theorem d_Corr_receive_22 : decode b_Corr_receive 22 = .ok (.iload_n 2, 1) := by decide +kernel
theorem d_Corr_receive_23 : decode b_Corr_receive 23 = .ok (.iaload, 1) := by decide +kernel
theorem d_Corr_receive_24 : decode b_Corr_receive 24 = .ok (.if_icmp .le 31, 3) := by decide +kernel
theorem d_Corr_receive_27 : decode b_Corr_receive 27 = .ok (.aload_n 0, 1) := by decide +kernel
theorem d_Corr_receive_28 : decode b_Corr_receive 28 = .ok (.getfield 22, 3) := by decide +kernel
theorem d_Corr_receive_31 : decode b_Corr_receive 31 = .ok (.iload_n 2, 1) := by decide +kernel
theorem d_Corr_receive_32 : decode b_Corr_receive 32 = .ok (.aload_n 1, 1) := by decide +kernel
theorem d_Corr_receive_33 : decode b_Corr_receive 33 = .ok (.getfield 46, 3) := by decide +kernel
theorem d_Corr_receive_36 : decode b_Corr_receive 36 = .ok (.iastore, 1) := by decide +kernel
theorem d_Corr_receive_37 : decode b_Corr_receive 37 = .ok (.aload_n 0, 1) := by decide +kernel
theorem d_Corr_receive_38 : decode b_Corr_receive 38 = .ok (.getfield 25, 3) := by decide +kernel
theorem d_Corr_receive_41 : decode b_Corr_receive 41 = .ok (.iload_n 2, 1) := by decide +kernel
theorem d_Corr_receive_42 : decode b_Corr_receive 42 = .ok (.aload_n 0, 1) := by decide +kernel
theorem d_Corr_receive_43 : decode b_Corr_receive 43 = .ok (.getfield 9, 3) := by decide +kernel
theorem d_Corr_receive_46 : decode b_Corr_receive 46 = .ok (.getfield 34, 3) := by decide +kernel
theorem d_Corr_receive_49 : decode b_Corr_receive 49 = .ok (.iastore, 1) := by decide +kernel
theorem d_Corr_receive_50 : decode b_Corr_receive 50 = .ok (.aload_n 0, 1) := by decide +kernel
theorem d_Corr_receive_51 : decode b_Corr_receive 51 = .ok (.iload_n 2, 1) := by decide +kernel
theorem d_Corr_receive_52 : decode b_Corr_receive 52 = .ok (.invokevirtual 49, 3) := by decide +kernel
theorem d_Corr_receive_55 : decode b_Corr_receive 55 = .ok (.return_, 1) := by decide +kernel
theorem d_Net_key_0 : decode b_Net_key 0 = .ok (.iload_n 2, 1) := by decide +kernel
theorem d_Net_key_1 : decode b_Net_key 1 = .ok (.invokestatic 63, 3) := by decide +kernel
theorem d_Net_key_4 : decode b_Net_key 4 = .ok (.ifCond .eq 12, 3) := by decide +kernel
theorem d_Net_key_7 : decode b_Net_key 7 = .ok (.iload_n 1, 1) := by decide +kernel
theorem d_Net_key_8 : decode b_Net_key 8 = .ok (.iconst 0, 1) := by decide +kernel
theorem d_Net_key_9 : decode b_Net_key 9 = .ok (.iconst 1, 1) := by decide +kernel
theorem d_Net_key_10 : decode b_Net_key 10 = .ok (.invokestatic 11, 3) := by decide +kernel
theorem d_Net_key_13 : decode b_Net_key 13 = .ok (.ifCond .ne 5, 3) := by decide +kernel
theorem d_Net_key_16 : decode b_Net_key 16 = .ok (.iconst 0, 1) := by decide +kernel
theorem d_Net_key_17 : decode b_Net_key 17 = .ok (.ireturn, 1) := by decide +kernel
theorem d_Net_key_18 : decode b_Net_key 18 = .ok (.iload_n 1, 1) := by decide +kernel
theorem d_Net_key_19 : decode b_Net_key 19 = .ok (.iconst 1, 1) := by decide +kernel
theorem d_Net_key_20 : decode b_Net_key 20 = .ok (.if_icmp .ne 16, 3) := by decide +kernel
theorem d_Net_key_23 : decode b_Net_key 23 = .ok (.aload_n 0, 1) := by decide +kernel
theorem d_Net_key_24 : decode b_Net_key 24 = .ok (.getfield 31, 3) := by decide +kernel
theorem d_Net_key_27 : decode b_Net_key 27 = .ok (.iload_n 2, 1) := by decide +kernel
theorem d_Net_key_28 : decode b_Net_key 28 = .ok (.aaload, 1) := by decide +kernel
theorem d_Net_key_29 : decode b_Net_key 29 = .ok (.iload_n 3, 1) := by decide +kernel
theorem d_Net_key_30 : decode b_Net_key 30 = .ok (.putfield 67, 3) := by decide +kernel
theorem d_Net_key_33 : decode b_Net_key 33 = .ok (.goto 13, 3) := by decide +kernel
theorem d_Net_key_36 : decode b_Net_key 36 = .ok (.aload_n 0, 1) := by decide +kernel
theorem d_Net_key_37 : decode b_Net_key 37 = .ok (.getfield 43, 3) := by decide +kernel
theorem d_Net_key_40 : decode b_Net_key 40 = .ok (.getfield 71, 3) := by decide +kernel
theorem d_Net_key_43 : decode b_Net_key 43 = .ok (.iload_n 2, 1) := by decide +kernel
theorem d_Net_key_44 : decode b_Net_key 44 = .ok (.iload_n 3, 1) := by decide +kernel
theorem d_Net_key_45 : decode b_Net_key 45 = .ok (.iastore, 1) := by decide +kernel
theorem d_Net_key_46 : decode b_Net_key 46 = .ok (.iconst 1, 1) := by decide +kernel
theorem d_Net_key_47 : decode b_Net_key 47 = .ok (.ireturn, 1) := by decide +kernel
theorem d_Net_move_0 : decode b_Net_move 0 = .ok (.iload_n 1, 1) := by decide +kernel
theorem d_Net_move_1 : decode b_Net_move 1 = .ok (.invokestatic 63, 3) := by decide +kernel
theorem d_Net_move_4 : decode b_Net_move 4 = .ok (.ifCond .eq 12, 3) := by decide +kernel
theorem d_Net_move_7 : decode b_Net_move 7 = .ok (.iload_n 2, 1) := by decide +kernel
theorem d_Net_move_8 : decode b_Net_move 8 = .ok (.iconst 0, 1) := by decide +kernel
theorem d_Net_move_9 : decode b_Net_move 9 = .ok (.iconst 4, 1) := by decide +kernel
theorem d_Net_move_10 : decode b_Net_move 10 = .ok (.invokestatic 11, 3) := by decide +kernel
theorem d_Net_move_13 : decode b_Net_move 13 = .ok (.ifCond .ne 5, 3) := by decide +kernel
theorem d_Net_move_16 : decode b_Net_move 16 = .ok (.iconst 0, 1) := by decide +kernel
theorem d_Net_move_17 : decode b_Net_move 17 = .ok (.ireturn, 1) := by decide +kernel
theorem d_Net_move_18 : decode b_Net_move 18 = .ok (.aload_n 0, 1) := by decide +kernel
theorem d_Net_move_19 : decode b_Net_move 19 = .ok (.getfield 31, 3) := by decide +kernel
theorem d_Net_move_22 : decode b_Net_move 22 = .ok (.iload_n 1, 1) := by decide +kernel
theorem d_Net_move_23 : decode b_Net_move 23 = .ok (.aaload, 1) := by decide +kernel
theorem d_Net_move_24 : decode b_Net_move 24 = .ok (.iload_n 2, 1) := by decide +kernel
theorem d_Net_move_25 : decode b_Net_move 25 = .ok (.putfield 75, 3) := by decide +kernel
theorem d_Net_move_28 : decode b_Net_move 28 = .ok (.iconst 1, 1) := by decide +kernel
theorem d_Net_move_29 : decode b_Net_move 29 = .ok (.ireturn, 1) := by decide +kernel
theorem d_Net_say_0 : decode b_Net_say 0 = .ok (.iload_n 1, 1) := by decide +kernel
theorem d_Net_say_1 : decode b_Net_say 1 = .ok (.invokestatic 63, 3) := by decide +kernel
theorem d_Net_say_4 : decode b_Net_say 4 = .ok (.ifCond .eq 18, 3) := by decide +kernel
theorem d_Net_say_7 : decode b_Net_say 7 = .ok (.aload_n 0, 1) := by decide +kernel
theorem d_Net_say_8 : decode b_Net_say 8 = .ok (.getfield 59, 3) := by decide +kernel
theorem d_Net_say_11 : decode b_Net_say 11 = .ok (.getfield 81, 3) := by decide +kernel
theorem d_Net_say_14 : decode b_Net_say 14 = .ok (.iload_n 1, 1) := by decide +kernel
theorem d_Net_say_15 : decode b_Net_say 15 = .ok (.iaload, 1) := by decide +kernel
theorem d_Net_say_16 : decode b_Net_say 16 = .ok (.sipush 200, 3) := by decide +kernel
theorem d_Net_say_19 : decode b_Net_say 19 = .ok (.if_icmp .lt 5, 3) := by decide +kernel
theorem d_Net_say_22 : decode b_Net_say 22 = .ok (.iconst (-1), 1) := by decide +kernel
theorem d_Net_say_23 : decode b_Net_say 23 = .ok (.ireturn, 1) := by decide +kernel
theorem d_Net_say_24 : decode b_Net_say 24 = .ok (.aload_n 0, 1) := by decide +kernel
theorem d_Net_say_25 : decode b_Net_say 25 = .ok (.getfield 59, 3) := by decide +kernel
theorem d_Net_say_28 : decode b_Net_say 28 = .ok (.getfield 81, 3) := by decide +kernel
theorem d_Net_say_31 : decode b_Net_say 31 = .ok (.iload_n 1, 1) := by decide +kernel
theorem d_Net_say_32 : decode b_Net_say 32 = .ok (.dup2, 1) := by decide +kernel
theorem d_Net_say_33 : decode b_Net_say 33 = .ok (.iaload, 1) := by decide +kernel
theorem d_Net_say_34 : decode b_Net_say 34 = .ok (.iconst 1, 1) := by decide +kernel
theorem d_Net_say_35 : decode b_Net_say 35 = .ok (.iadd, 1) := by decide +kernel
theorem d_Net_say_36 : decode b_Net_say 36 = .ok (.iastore, 1) := by decide +kernel
theorem d_Net_say_37 : decode b_Net_say 37 = .ok (.aload_n 0, 1) := by decide +kernel
theorem d_Net_say_38 : decode b_Net_say 38 = .ok (.getfield 59, 3) := by decide +kernel
theorem d_Net_say_41 : decode b_Net_say 41 = .ok (.iload_n 1, 1) := by decide +kernel
theorem d_Net_say_42 : decode b_Net_say 42 = .ok (.invokevirtual 84, 3) := by decide +kernel
theorem d_Net_say_45 : decode b_Net_say 45 = .ok (.aload_n 0, 1) := by decide +kernel
theorem d_Net_say_46 : decode b_Net_say 46 = .ok (.getfield 59, 3) := by decide +kernel
theorem d_Net_say_49 : decode b_Net_say 49 = .ok (.getfield 81, 3) := by decide +kernel
theorem d_Net_say_52 : decode b_Net_say 52 = .ok (.iload_n 1, 1) := by decide +kernel
theorem d_Net_say_53 : decode b_Net_say 53 = .ok (.iaload, 1) := by decide +kernel
theorem d_Net_say_54 : decode b_Net_say 54 = .ok (.ireturn, 1) := by decide +kernel
theorem d_Net_handOver_0 : decode b_Net_handOver 0 = .ok (.aload_n 1, 1) := by decide +kernel
theorem d_Net_handOver_1 : decode b_Net_handOver 1 = .ok (.getfield 180, 3) := by decide +kernel
theorem d_Net_handOver_4 : decode b_Net_handOver 4 = .ok (.iconst 5, 1) := by decide +kernel
theorem d_Net_handOver_5 : decode b_Net_handOver 5 = .ok (.if_icmp .ne 19, 3) := by decide +kernel
theorem d_Net_handOver_8 : decode b_Net_handOver 8 = .ok (.aload_n 0, 1) := by decide +kernel
theorem d_Net_handOver_9 : decode b_Net_handOver 9 = .ok (.getfield 31, 3) := by decide +kernel
theorem d_Net_handOver_12 : decode b_Net_handOver 12 = .ok (.aload_n 1, 1) := by decide +kernel
theorem d_Net_handOver_13 : decode b_Net_handOver 13 = .ok (.getfield 183, 3) := by decide +kernel
theorem d_Net_handOver_16 : decode b_Net_handOver 16 = .ok (.aaload, 1) := by decide +kernel
theorem d_Net_handOver_17 : decode b_Net_handOver 17 = .ok (.aload_n 1, 1) := by decide +kernel
theorem d_Net_handOver_18 : decode b_Net_handOver 18 = .ok (.invokevirtual 186, 3) := by decide +kernel
theorem d_Net_handOver_21 : decode b_Net_handOver 21 = .ok (.goto 55, 3) := by decide +kernel
theorem d_Net_handOver_24 : decode b_Net_handOver 24 = .ok (.aload_n 1, 1) := by decide +kernel
theorem d_Net_handOver_25 : decode b_Net_handOver 25 = .ok (.getfield 180, 3) := by decide +kernel
theorem d_Net_handOver_28 : decode b_Net_handOver 28 = .ok (.iconst 4, 1) := by decide +kernel
theorem d_Net_handOver_29 : decode b_Net_handOver 29 = .ok (.if_icmp .ne 14, 3) := by decide +kernel
theorem d_Net_handOver_32 : decode b_Net_handOver 32 = .ok (.aload_n 0, 1) := by decide +kernel
theorem d_Net_handOver_33 : decode b_Net_handOver 33 = .ok (.getfield 59, 3) := by decide +kernel
theorem d_Net_handOver_36 : decode b_Net_handOver 36 = .ok (.aload_n 1, 1) := by decide +kernel
theorem d_Net_handOver_37 : decode b_Net_handOver 37 = .ok (.invokevirtual 189, 3) := by decide +kernel
theorem d_Net_handOver_40 : decode b_Net_handOver 40 = .ok (.goto 36, 3) := by decide +kernel
theorem d_Net_handOver_43 : decode b_Net_handOver 43 = .ok (.aload_n 1, 1) := by decide +kernel
theorem d_Net_handOver_44 : decode b_Net_handOver 44 = .ok (.getfield 180, 3) := by decide +kernel
theorem d_Net_handOver_47 : decode b_Net_handOver 47 = .ok (.ifCond .ne 14, 3) := by decide +kernel
theorem d_Net_handOver_50 : decode b_Net_handOver 50 = .ok (.aload_n 0, 1) := by decide +kernel
theorem d_Net_handOver_51 : decode b_Net_handOver 51 = .ok (.getfield 43, 3) := by decide +kernel
theorem d_Net_handOver_54 : decode b_Net_handOver 54 = .ok (.aload_n 1, 1) := by decide +kernel
theorem d_Net_handOver_55 : decode b_Net_handOver 55 = .ok (.invokevirtual 190, 3) := by decide +kernel
theorem d_Net_handOver_58 : decode b_Net_handOver 58 = .ok (.goto 18, 3) := by decide +kernel
theorem d_Net_handOver_61 : decode b_Net_handOver 61 = .ok (.aload_n 0, 1) := by decide +kernel
theorem d_Net_handOver_62 : decode b_Net_handOver 62 = .ok (.getfield 49, 3) := by decide +kernel
theorem d_Net_handOver_65 : decode b_Net_handOver 65 = .ok (.aload_n 1, 1) := by decide +kernel
theorem d_Net_handOver_66 : decode b_Net_handOver 66 = .ok (.getfield 180, 3) := by decide +kernel
theorem d_Net_handOver_69 : decode b_Net_handOver 69 = .ok (.iconst 1, 1) := by decide +kernel
theorem d_Net_handOver_70 : decode b_Net_handOver 70 = .ok (.isub, 1) := by decide +kernel
theorem d_Net_handOver_71 : decode b_Net_handOver 71 = .ok (.aaload, 1) := by decide +kernel
theorem d_Net_handOver_72 : decode b_Net_handOver 72 = .ok (.aload_n 1, 1) := by decide +kernel
theorem d_Net_handOver_73 : decode b_Net_handOver 73 = .ok (.invokevirtual 191, 3) := by decide +kernel
theorem d_Net_handOver_76 : decode b_Net_handOver 76 = .ok (.return_, 1) := by decide +kernel
theorem d_Net_deliver_0 : decode b_Net_deliver 0 = .ok (.aload_n 0, 1) := by decide +kernel
theorem d_Net_deliver_1 : decode b_Net_deliver 1 = .ok (.getfield 18, 3) := by decide +kernel
theorem d_Net_deliver_4 : decode b_Net_deliver 4 = .ok (.iload_n 1, 1) := by decide +kernel
theorem d_Net_deliver_5 : decode b_Net_deliver 5 = .ok (.invokevirtual 88, 3) := by decide +kernel
theorem d_Net_deliver_8 : decode b_Net_deliver 8 = .ok (.ifCond .ne 5, 3) := by decide +kernel
theorem d_Net_deliver_11 : decode b_Net_deliver 11 = .ok (.iconst 0, 1) := by decide +kernel
theorem d_Net_deliver_12 : decode b_Net_deliver 12 = .ok (.ireturn, 1) := by decide +kernel
theorem d_Net_deliver_13 : decode b_Net_deliver 13 = .ok (.aload_n 0, 1) := by decide +kernel
theorem d_Net_deliver_14 : decode b_Net_deliver 14 = .ok (.getfield 25, 3) := by decide +kernel
theorem d_Net_deliver_17 : decode b_Net_deliver 17 = .ok (.aload_n 0, 1) := by decide +kernel
theorem d_Net_deliver_18 : decode b_Net_deliver 18 = .ok (.getfield 18, 3) := by decide +kernel
theorem d_Net_deliver_21 : decode b_Net_deliver 21 = .ok (.getfield 91, 3) := by decide +kernel
theorem d_Net_deliver_24 : decode b_Net_deliver 24 = .ok (.iload_n 1, 1) := by decide +kernel
theorem d_Net_deliver_25 : decode b_Net_deliver 25 = .ok (.aaload, 1) := by decide +kernel
theorem d_Net_deliver_26 : decode b_Net_deliver 26 = .ok (.invokevirtual 95, 3) := by decide +kernel
theorem d_Net_deliver_29 : decode b_Net_deliver 29 = .ok (.aload_n 0, 1) := by decide +kernel
theorem d_Net_deliver_30 : decode b_Net_deliver 30 = .ok (.getfield 18, 3) := by decide +kernel
theorem d_Net_deliver_33 : decode b_Net_deliver 33 = .ok (.iload_n 1, 1) := by decide +kernel
theorem d_Net_deliver_34 : decode b_Net_deliver 34 = .ok (.invokevirtual 99, 3) := by decide +kernel
theorem d_Net_deliver_37 : decode b_Net_deliver 37 = .ok (.aload_n 0, 1) := by decide +kernel
theorem d_Net_deliver_38 : decode b_Net_deliver 38 = .ok (.aload_n 0, 1) := by decide +kernel
theorem d_Net_deliver_39 : decode b_Net_deliver 39 = .ok (.getfield 25, 3) := by decide +kernel
theorem d_Net_deliver_42 : decode b_Net_deliver 42 = .ok (.invokevirtual 102, 3) := by decide +kernel
theorem d_Net_deliver_45 : decode b_Net_deliver 45 = .ok (.iconst 1, 1) := by decide +kernel
theorem d_Net_deliver_46 : decode b_Net_deliver 46 = .ok (.ireturn, 1) := by decide +kernel
theorem d_Net_drop_0 : decode b_Net_drop 0 = .ok (.aload_n 0, 1) := by decide +kernel
theorem d_Net_drop_1 : decode b_Net_drop 1 = .ok (.getfield 18, 3) := by decide +kernel
theorem d_Net_drop_4 : decode b_Net_drop 4 = .ok (.iload_n 1, 1) := by decide +kernel
theorem d_Net_drop_5 : decode b_Net_drop 5 = .ok (.invokevirtual 88, 3) := by decide +kernel
theorem d_Net_drop_8 : decode b_Net_drop 8 = .ok (.ifCond .ne 5, 3) := by decide +kernel
theorem d_Net_drop_11 : decode b_Net_drop 11 = .ok (.iconst 0, 1) := by decide +kernel
theorem d_Net_drop_12 : decode b_Net_drop 12 = .ok (.ireturn, 1) := by decide +kernel
theorem d_Net_drop_13 : decode b_Net_drop 13 = .ok (.aload_n 0, 1) := by decide +kernel
theorem d_Net_drop_14 : decode b_Net_drop 14 = .ok (.getfield 18, 3) := by decide +kernel
theorem d_Net_drop_17 : decode b_Net_drop 17 = .ok (.iload_n 1, 1) := by decide +kernel
theorem d_Net_drop_18 : decode b_Net_drop 18 = .ok (.invokevirtual 99, 3) := by decide +kernel
theorem d_Net_drop_21 : decode b_Net_drop 21 = .ok (.iconst 1, 1) := by decide +kernel
theorem d_Net_drop_22 : decode b_Net_drop 22 = .ok (.ireturn, 1) := by decide +kernel
theorem d_Net_duplicate_0 : decode b_Net_duplicate 0 = .ok (.aload_n 0, 1) := by decide +kernel
theorem d_Net_duplicate_1 : decode b_Net_duplicate 1 = .ok (.getfield 18, 3) := by decide +kernel
theorem d_Net_duplicate_4 : decode b_Net_duplicate 4 = .ok (.iload_n 1, 1) := by decide +kernel
theorem d_Net_duplicate_5 : decode b_Net_duplicate 5 = .ok (.invokevirtual 88, 3) := by decide +kernel
theorem d_Net_duplicate_8 : decode b_Net_duplicate 8 = .ok (.ifCond .eq 13, 3) := by decide +kernel
theorem d_Net_duplicate_11 : decode b_Net_duplicate 11 = .ok (.aload_n 0, 1) := by decide +kernel
theorem d_Net_duplicate_12 : decode b_Net_duplicate 12 = .ok (.getfield 18, 3) := by decide +kernel
theorem d_Net_duplicate_15 : decode b_Net_duplicate 15 = .ok (.invokevirtual 105, 3) := by decide +kernel
theorem d_Net_duplicate_18 : decode b_Net_duplicate 18 = .ok (.ifCond .eq 5, 3) := by decide +kernel
theorem d_Net_duplicate_21 : decode b_Net_duplicate 21 = .ok (.iconst 0, 1) := by decide +kernel
theorem d_Net_duplicate_22 : decode b_Net_duplicate 22 = .ok (.ireturn, 1) := by decide +kernel
theorem d_Net_duplicate_23 : decode b_Net_duplicate 23 = .ok (.aload_n 0, 1) := by decide +kernel
theorem d_Net_duplicate_24 : decode b_Net_duplicate 24 = .ok (.getfield 18, 3) := by decide +kernel
theorem d_Net_duplicate_27 : decode b_Net_duplicate 27 = .ok (.invokevirtual 109, 3) := by decide +kernel
theorem d_Net_duplicate_30 : decode b_Net_duplicate 30 = .ok (.aload_n 0, 1) := by decide +kernel
theorem d_Net_duplicate_31 : decode b_Net_duplicate 31 = .ok (.getfield 18, 3) := by decide +kernel
theorem d_Net_duplicate_34 : decode b_Net_duplicate 34 = .ok (.getfield 91, 3) := by decide +kernel
theorem d_Net_duplicate_37 : decode b_Net_duplicate 37 = .ok (.iload_n 1, 1) := by decide +kernel
theorem d_Net_duplicate_38 : decode b_Net_duplicate 38 = .ok (.aaload, 1) := by decide +kernel
theorem d_Net_duplicate_39 : decode b_Net_duplicate 39 = .ok (.invokevirtual 95, 3) := by decide +kernel
theorem d_Net_duplicate_42 : decode b_Net_duplicate 42 = .ok (.iconst 1, 1) := by decide +kernel
theorem d_Net_duplicate_43 : decode b_Net_duplicate 43 = .ok (.ireturn, 1) := by decide +kernel
theorem d_Net_inject_0 : decode b_Net_inject 0 = .ok (.iload_n 1, 1) := by decide +kernel
theorem d_Net_inject_1 : decode b_Net_inject 1 = .ok (.invokestatic 113, 3) := by decide +kernel
theorem d_Net_inject_4 : decode b_Net_inject 4 = .ok (.ifCond .eq 17, 3) := by decide +kernel
theorem d_Net_inject_7 : decode b_Net_inject 7 = .ok (.iload_n 2, 1) := by decide +kernel
theorem d_Net_inject_8 : decode b_Net_inject 8 = .ok (.invokestatic 63, 3) := by decide +kernel
theorem d_Net_inject_11 : decode b_Net_inject 11 = .ok (.ifCond .eq 10, 3) := by decide +kernel
theorem d_Net_inject_14 : decode b_Net_inject 14 = .ok (.iload_n 3, 1) := by decide +kernel
theorem d_Net_inject_15 : decode b_Net_inject 15 = .ok (.invokestatic 113, 3) := by decide +kernel
theorem d_Net_inject_18 : decode b_Net_inject 18 = .ok (.ifCond .ne 5, 3) := by decide +kernel
theorem d_Net_inject_21 : decode b_Net_inject 21 = .ok (.iconst 0, 1) := by decide +kernel
theorem d_Net_inject_22 : decode b_Net_inject 22 = .ok (.ireturn, 1) := by decide +kernel
theorem d_Net_inject_23 : decode b_Net_inject 23 = .ok (.iload 4, 2) := by decide +kernel
theorem d_Net_inject_25 : decode b_Net_inject 25 = .ok (.iconst 0, 1) := by decide +kernel
theorem d_Net_inject_26 : decode b_Net_inject 26 = .ok (.bipush 60, 2) := by decide +kernel
theorem d_Net_inject_28 : decode b_Net_inject 28 = .ok (.invokestatic 11, 3) := by decide +kernel
theorem d_Net_inject_31 : decode b_Net_inject 31 = .ok (.ifCond .eq 15, 3) := by decide +kernel
theorem d_Net_inject_34 : decode b_Net_inject 34 = .ok (.iload 5, 2) := by decide +kernel
theorem d_Net_inject_36 : decode b_Net_inject 36 = .ok (.iconst 1, 1) := by decide +kernel
theorem d_Net_inject_37 : decode b_Net_inject 37 = .ok (.sipush 9999, 3) := by decide +kernel
theorem d_Net_inject_40 : decode b_Net_inject 40 = .ok (.invokestatic 11, 3) := by decide +kernel
theorem d_Net_inject_43 : decode b_Net_inject 43 = .ok (.ifCond .ne 5, 3) := by decide +kernel
theorem d_Net_inject_46 : decode b_Net_inject 46 = .ok (.iconst 0, 1) := by decide +kernel
theorem d_Net_inject_47 : decode b_Net_inject 47 = .ok (.ireturn, 1) := by decide +kernel
theorem d_Net_inject_48 : decode b_Net_inject 48 = .ok (.iload_n 3, 1) := by decide +kernel
theorem d_Net_inject_49 : decode b_Net_inject 49 = .ok (.ifCond .ne 7, 3) := by decide +kernel
theorem d_Net_inject_52 : decode b_Net_inject 52 = .ok (.iconst 1, 1) := by decide +kernel
theorem d_Net_inject_53 : decode b_Net_inject 53 = .ok (.goto 4, 3) := by decide +kernel
theorem d_Net_inject_56 : decode b_Net_inject 56 = .ok (.iconst 0, 1) := by decide +kernel
theorem d_Net_inject_57 : decode b_Net_inject 57 = .ok (.iload 4, 2) := by decide +kernel
theorem d_Net_inject_59 : decode b_Net_inject 59 = .ok (.ifCond .ne 7, 3) := by decide +kernel
theorem d_Net_inject_62 : decode b_Net_inject 62 = .ok (.iconst 1, 1) := by decide +kernel
theorem d_Net_inject_63 : decode b_Net_inject 63 = .ok (.goto 4, 3) := by decide +kernel
theorem d_Net_inject_66 : decode b_Net_inject 66 = .ok (.iconst 0, 1) := by decide +kernel
theorem d_Net_inject_67 : decode b_Net_inject 67 = .ok (.if_icmp .ne 13, 3) := by decide +kernel
theorem d_Net_inject_70 : decode b_Net_inject 70 = .ok (.aload_n 0, 1) := by decide +kernel
theorem d_Net_inject_71 : decode b_Net_inject 71 = .ok (.getfield 18, 3) := by decide +kernel
theorem d_Net_inject_74 : decode b_Net_inject 74 = .ok (.invokevirtual 105, 3) := by decide +kernel
theorem d_Net_inject_77 : decode b_Net_inject 77 = .ok (.ifCond .eq 5, 3) := by decide +kernel
theorem d_Net_inject_80 : decode b_Net_inject 80 = .ok (.iconst 0, 1) := by decide +kernel
theorem d_Net_inject_81 : decode b_Net_inject 81 = .ok (.ireturn, 1) := by decide +kernel
theorem d_Net_inject_82 : decode b_Net_inject 82 = .ok (.aload_n 0, 1) := by decide +kernel
theorem d_Net_inject_83 : decode b_Net_inject 83 = .ok (.getfield 18, 3) := by decide +kernel
theorem d_Net_inject_86 : decode b_Net_inject 86 = .ok (.iload_n 1, 1) := by decide +kernel
theorem d_Net_inject_87 : decode b_Net_inject 87 = .ok (.iconst 2, 1) := by decide +kernel
theorem d_Net_inject_88 : decode b_Net_inject 88 = .ok (.iload_n 2, 1) := by decide +kernel
theorem d_Net_inject_89 : decode b_Net_inject 89 = .ok (.iload 5, 2) := by decide +kernel
theorem d_Net_inject_91 : decode b_Net_inject 91 = .ok (.invokevirtual 116, 3) := by decide +kernel
theorem d_Net_inject_94 : decode b_Net_inject 94 = .ok (.astore 7, 2) := by decide +kernel
theorem d_Net_inject_96 : decode b_Net_inject 96 = .ok (.aload 7, 2) := by decide +kernel
theorem d_Net_inject_98 : decode b_Net_inject 98 = .ok (.iload_n 3, 1) := by decide +kernel
theorem d_Net_inject_99 : decode b_Net_inject 99 = .ok (.putfield 120, 3) := by decide +kernel
theorem d_Net_inject_102 : decode b_Net_inject 102 = .ok (.aload 7, 2) := by decide +kernel
theorem d_Net_inject_104 : decode b_Net_inject 104 = .ok (.iload 4, 2) := by decide +kernel
theorem d_Net_inject_106 : decode b_Net_inject 106 = .ok (.putfield 123, 3) := by decide +kernel
theorem d_Net_inject_109 : decode b_Net_inject 109 = .ok (.aload 7, 2) := by decide +kernel
theorem d_Net_inject_111 : decode b_Net_inject 111 = .ok (.iload 6, 2) := by decide +kernel
theorem d_Net_inject_113 : decode b_Net_inject 113 = .ok (.putfield 126, 3) := by decide +kernel
theorem d_Net_inject_116 : decode b_Net_inject 116 = .ok (.iconst 1, 1) := by decide +kernel
theorem d_Net_inject_117 : decode b_Net_inject 117 = .ok (.ireturn, 1) := by decide +kernel
theorem d_Net_messages_0 : decode b_Net_messages 0 = .ok (.aload_n 0, 1) := by decide +kernel
theorem d_Net_messages_1 : decode b_Net_messages 1 = .ok (.getfield 18, 3) := by decide +kernel
theorem d_Net_messages_4 : decode b_Net_messages 4 = .ok (.getfield 129, 3) := by decide +kernel
theorem d_Net_messages_7 : decode b_Net_messages 7 = .ok (.ireturn, 1) := by decide +kernel
theorem d_Net_message_0 : decode b_Net_message 0 = .ok (.aload_n 0, 1) := by decide +kernel
theorem d_Net_message_1 : decode b_Net_message 1 = .ok (.getfield 18, 3) := by decide +kernel
theorem d_Net_message_4 : decode b_Net_message 4 = .ok (.iload_n 1, 1) := by decide +kernel
theorem d_Net_message_5 : decode b_Net_message 5 = .ok (.invokevirtual 88, 3) := by decide +kernel
theorem d_Net_message_8 : decode b_Net_message 8 = .ok (.ifCond .eq 18, 3) := by decide +kernel
theorem d_Net_message_11 : decode b_Net_message 11 = .ok (.aload_n 0, 1) := by decide +kernel
theorem d_Net_message_12 : decode b_Net_message 12 = .ok (.getfield 18, 3) := by decide +kernel
theorem d_Net_message_15 : decode b_Net_message 15 = .ok (.getfield 91, 3) := by decide +kernel
theorem d_Net_message_18 : decode b_Net_message 18 = .ok (.iload_n 1, 1) := by decide +kernel
theorem d_Net_message_19 : decode b_Net_message 19 = .ok (.aaload, 1) := by decide +kernel
theorem d_Net_message_20 : decode b_Net_message 20 = .ok (.invokevirtual 132, 3) := by decide +kernel
theorem d_Net_message_23 : decode b_Net_message 23 = .ok (.goto 4, 3) := by decide +kernel
theorem d_Net_message_26 : decode b_Net_message 26 = .ok (.iconst (-1), 1) := by decide +kernel
theorem d_Net_message_27 : decode b_Net_message 27 = .ok (.ireturn, 1) := by decide +kernel
theorem d_Net_place_0 : decode b_Net_place 0 = .ok (.iload_n 1, 1) := by decide +kernel
theorem d_Net_place_1 : decode b_Net_place 1 = .ok (.invokestatic 63, 3) := by decide +kernel
theorem d_Net_place_4 : decode b_Net_place 4 = .ok (.ifCond .eq 15, 3) := by decide +kernel
theorem d_Net_place_7 : decode b_Net_place 7 = .ok (.aload_n 0, 1) := by decide +kernel
theorem d_Net_place_8 : decode b_Net_place 8 = .ok (.getfield 31, 3) := by decide +kernel
theorem d_Net_place_11 : decode b_Net_place 11 = .ok (.iload_n 1, 1) := by decide +kernel
theorem d_Net_place_12 : decode b_Net_place 12 = .ok (.aaload, 1) := by decide +kernel
theorem d_Net_place_13 : decode b_Net_place 13 = .ok (.getfield 75, 3) := by decide +kernel
theorem d_Net_place_16 : decode b_Net_place 16 = .ok (.goto 4, 3) := by decide +kernel
theorem d_Net_place_19 : decode b_Net_place 19 = .ok (.iconst (-1), 1) := by decide +kernel
theorem d_Net_place_20 : decode b_Net_place 20 = .ok (.ireturn, 1) := by decide +kernel
theorem d_Net_registered_0 : decode b_Net_registered 0 = .ok (.iload_n 1, 1) := by decide +kernel
theorem d_Net_registered_1 : decode b_Net_registered 1 = .ok (.invokestatic 63, 3) := by decide +kernel
theorem d_Net_registered_4 : decode b_Net_registered 4 = .ok (.ifCond .eq 15, 3) := by decide +kernel
theorem d_Net_registered_7 : decode b_Net_registered 7 = .ok (.aload_n 0, 1) := by decide +kernel
theorem d_Net_registered_8 : decode b_Net_registered 8 = .ok (.getfield 31, 3) := by decide +kernel
theorem d_Net_registered_11 : decode b_Net_registered 11 = .ok (.iload_n 1, 1) := by decide +kernel
theorem d_Net_registered_12 : decode b_Net_registered 12 = .ok (.aaload, 1) := by decide +kernel
theorem d_Net_registered_13 : decode b_Net_registered 13 = .ok (.getfield 136, 3) := by decide +kernel
theorem d_Net_registered_16 : decode b_Net_registered 16 = .ok (.goto 4, 3) := by decide +kernel
theorem d_Net_registered_19 : decode b_Net_registered 19 = .ok (.iconst (-1), 1) := by decide +kernel
theorem d_Net_registered_20 : decode b_Net_registered 20 = .ok (.ireturn, 1) := by decide +kernel
theorem d_Net_open_0 : decode b_Net_open 0 = .ok (.iload_n 1, 1) := by decide +kernel
theorem d_Net_open_1 : decode b_Net_open 1 = .ok (.invokestatic 63, 3) := by decide +kernel
theorem d_Net_open_4 : decode b_Net_open 4 = .ok (.ifCond .eq 15, 3) := by decide +kernel
theorem d_Net_open_7 : decode b_Net_open 7 = .ok (.aload_n 0, 1) := by decide +kernel
theorem d_Net_open_8 : decode b_Net_open 8 = .ok (.getfield 31, 3) := by decide +kernel
theorem d_Net_open_11 : decode b_Net_open 11 = .ok (.iload_n 1, 1) := by decide +kernel
theorem d_Net_open_12 : decode b_Net_open 12 = .ok (.aaload, 1) := by decide +kernel
theorem d_Net_open_13 : decode b_Net_open 13 = .ok (.getfield 139, 3) := by decide +kernel
theorem d_Net_open_16 : decode b_Net_open 16 = .ok (.goto 4, 3) := by decide +kernel
theorem d_Net_open_19 : decode b_Net_open 19 = .ok (.iconst 0, 1) := by decide +kernel
theorem d_Net_open_20 : decode b_Net_open 20 = .ok (.ireturn, 1) := by decide +kernel
theorem d_Net_binding_0 : decode b_Net_binding 0 = .ok (.iload_n 1, 1) := by decide +kernel
theorem d_Net_binding_1 : decode b_Net_binding 1 = .ok (.invokestatic 63, 3) := by decide +kernel
theorem d_Net_binding_4 : decode b_Net_binding 4 = .ok (.ifCond .eq 14, 3) := by decide +kernel
theorem d_Net_binding_7 : decode b_Net_binding 7 = .ok (.aload_n 0, 1) := by decide +kernel
theorem d_Net_binding_8 : decode b_Net_binding 8 = .ok (.getfield 43, 3) := by decide +kernel
theorem d_Net_binding_11 : decode b_Net_binding 11 = .ok (.iload_n 1, 1) := by decide +kernel
theorem d_Net_binding_12 : decode b_Net_binding 12 = .ok (.invokevirtual 142, 3) := by decide +kernel
theorem d_Net_binding_15 : decode b_Net_binding 15 = .ok (.ifCond .ne 5, 3) := by decide +kernel
theorem d_Net_binding_18 : decode b_Net_binding 18 = .ok (.iconst 0, 1) := by decide +kernel
theorem d_Net_binding_19 : decode b_Net_binding 19 = .ok (.ireturn, 1) := by decide +kernel
theorem d_Net_binding_20 : decode b_Net_binding 20 = .ok (.bipush 100, 2) := by decide +kernel
theorem d_Net_binding_22 : decode b_Net_binding 22 = .ok (.aload_n 0, 1) := by decide +kernel
theorem d_Net_binding_23 : decode b_Net_binding 23 = .ok (.getfield 43, 3) := by decide +kernel
theorem d_Net_binding_26 : decode b_Net_binding 26 = .ok (.getfield 145, 3) := by decide +kernel
theorem d_Net_binding_29 : decode b_Net_binding 29 = .ok (.iload_n 1, 1) := by decide +kernel
theorem d_Net_binding_30 : decode b_Net_binding 30 = .ok (.iaload, 1) := by decide +kernel
theorem d_Net_binding_31 : decode b_Net_binding 31 = .ok (.imul, 1) := by decide +kernel
theorem d_Net_binding_32 : decode b_Net_binding 32 = .ok (.aload_n 0, 1) := by decide +kernel
theorem d_Net_binding_33 : decode b_Net_binding 33 = .ok (.getfield 43, 3) := by decide +kernel
theorem d_Net_binding_36 : decode b_Net_binding 36 = .ok (.getfield 147, 3) := by decide +kernel
theorem d_Net_binding_39 : decode b_Net_binding 39 = .ok (.iload_n 1, 1) := by decide +kernel
theorem d_Net_binding_40 : decode b_Net_binding 40 = .ok (.iaload, 1) := by decide +kernel
theorem d_Net_binding_41 : decode b_Net_binding 41 = .ok (.iadd, 1) := by decide +kernel
theorem d_Net_binding_42 : decode b_Net_binding 42 = .ok (.aload_n 0, 1) := by decide +kernel
theorem d_Net_binding_43 : decode b_Net_binding 43 = .ok (.getfield 18, 3) := by decide +kernel
theorem d_Net_binding_46 : decode b_Net_binding 46 = .ok (.getfield 150, 3) := by decide +kernel
theorem d_Net_binding_49 : decode b_Net_binding 49 = .ok (.isub, 1) := by decide +kernel
theorem d_Net_binding_50 : decode b_Net_binding 50 = .ok (.ireturn, 1) := by decide +kernel
theorem d_Net_visit_0 : decode b_Net_visit 0 = .ok (.iload_n 1, 1) := by decide +kernel
theorem d_Net_visit_1 : decode b_Net_visit 1 = .ok (.invokestatic 113, 3) := by decide +kernel
theorem d_Net_visit_4 : decode b_Net_visit 4 = .ok (.ifCond .eq 14, 3) := by decide +kernel
theorem d_Net_visit_7 : decode b_Net_visit 7 = .ok (.iload_n 1, 1) := by decide +kernel
theorem d_Net_visit_8 : decode b_Net_visit 8 = .ok (.ifCond .eq 10, 3) := by decide +kernel
theorem d_Net_visit_11 : decode b_Net_visit 11 = .ok (.iload_n 2, 1) := by decide +kernel
theorem d_Net_visit_12 : decode b_Net_visit 12 = .ok (.invokestatic 63, 3) := by decide +kernel
theorem d_Net_visit_15 : decode b_Net_visit 15 = .ok (.ifCond .ne 5, 3) := by decide +kernel
theorem d_Net_visit_18 : decode b_Net_visit 18 = .ok (.iconst 0, 1) := by decide +kernel
theorem d_Net_visit_19 : decode b_Net_visit 19 = .ok (.ireturn, 1) := by decide +kernel
theorem d_Net_visit_20 : decode b_Net_visit 20 = .ok (.aload_n 0, 1) := by decide +kernel
theorem d_Net_visit_21 : decode b_Net_visit 21 = .ok (.getfield 49, 3) := by decide +kernel
theorem d_Net_visit_24 : decode b_Net_visit 24 = .ok (.iload_n 1, 1) := by decide +kernel
theorem d_Net_visit_25 : decode b_Net_visit 25 = .ok (.iconst 1, 1) := by decide +kernel
theorem d_Net_visit_26 : decode b_Net_visit 26 = .ok (.isub, 1) := by decide +kernel
theorem d_Net_visit_27 : decode b_Net_visit 27 = .ok (.aaload, 1) := by decide +kernel
theorem d_Net_visit_28 : decode b_Net_visit 28 = .ok (.astore_n 3, 1) := by decide +kernel
theorem d_Net_visit_29 : decode b_Net_visit 29 = .ok (.aload_n 3, 1) := by decide +kernel
theorem d_Net_visit_30 : decode b_Net_visit 30 = .ok (.iload_n 2, 1) := by decide +kernel
theorem d_Net_visit_31 : decode b_Net_visit 31 = .ok (.invokevirtual 153, 3) := by decide +kernel
theorem d_Net_visit_34 : decode b_Net_visit 34 = .ok (.ifCond .eq 20, 3) := by decide +kernel
theorem d_Net_visit_37 : decode b_Net_visit 37 = .ok (.aload_n 3, 1) := by decide +kernel
theorem d_Net_visit_38 : decode b_Net_visit 38 = .ok (.getfield 156, 3) := by decide +kernel
theorem d_Net_visit_41 : decode b_Net_visit 41 = .ok (.iload_n 2, 1) := by decide +kernel
theorem d_Net_visit_42 : decode b_Net_visit 42 = .ok (.iaload, 1) := by decide +kernel
theorem d_Net_visit_43 : decode b_Net_visit 43 = .ok (.aload_n 0, 1) := by decide +kernel
theorem d_Net_visit_44 : decode b_Net_visit 44 = .ok (.getfield 18, 3) := by decide +kernel
theorem d_Net_visit_47 : decode b_Net_visit 47 = .ok (.getfield 150, 3) := by decide +kernel
theorem d_Net_visit_50 : decode b_Net_visit 50 = .ok (.isub, 1) := by decide +kernel
theorem d_Net_visit_51 : decode b_Net_visit 51 = .ok (.goto 4, 3) := by decide +kernel
theorem d_Net_visit_54 : decode b_Net_visit 54 = .ok (.iconst 0, 1) := by decide +kernel
theorem d_Net_visit_55 : decode b_Net_visit 55 = .ok (.ireturn, 1) := by decide +kernel
theorem d_Net_count_0 : decode b_Net_count 0 = .ok (.iload_n 2, 1) := by decide +kernel
theorem d_Net_count_1 : decode b_Net_count 1 = .ok (.invokestatic 63, 3) := by decide +kernel
theorem d_Net_count_4 : decode b_Net_count 4 = .ok (.ifCond .ne 5, 3) := by decide +kernel
theorem d_Net_count_7 : decode b_Net_count 7 = .ok (.iconst (-1), 1) := by decide +kernel
theorem d_Net_count_8 : decode b_Net_count 8 = .ok (.ireturn, 1) := by decide +kernel
theorem d_Net_count_9 : decode b_Net_count 9 = .ok (.iload_n 1, 1) := by decide +kernel
theorem d_Net_count_10 : decode b_Net_count 10 = .ok (.tableswitch 70 0 3 #[30, 40, 50, 60], 30) := by decide +kernel
theorem d_Net_count_40 : decode b_Net_count 40 = .ok (.aload_n 0, 1) := by decide +kernel
theorem d_Net_count_41 : decode b_Net_count 41 = .ok (.getfield 31, 3) := by decide +kernel
theorem d_Net_count_44 : decode b_Net_count 44 = .ok (.iload_n 2, 1) := by decide +kernel
theorem d_Net_count_45 : decode b_Net_count 45 = .ok (.aaload, 1) := by decide +kernel
theorem d_Net_count_46 : decode b_Net_count 46 = .ok (.getfield 159, 3) := by decide +kernel
theorem d_Net_count_49 : decode b_Net_count 49 = .ok (.ireturn, 1) := by decide +kernel
theorem d_Net_count_50 : decode b_Net_count 50 = .ok (.aload_n 0, 1) := by decide +kernel
theorem d_Net_count_51 : decode b_Net_count 51 = .ok (.getfield 59, 3) := by decide +kernel
theorem d_Net_count_54 : decode b_Net_count 54 = .ok (.getfield 162, 3) := by decide +kernel
theorem d_Net_count_57 : decode b_Net_count 57 = .ok (.iload_n 2, 1) := by decide +kernel
theorem d_Net_count_58 : decode b_Net_count 58 = .ok (.iaload, 1) := by decide +kernel
theorem d_Net_count_59 : decode b_Net_count 59 = .ok (.ireturn, 1) := by decide +kernel
theorem d_Net_count_60 : decode b_Net_count 60 = .ok (.aload_n 0, 1) := by decide +kernel
theorem d_Net_count_61 : decode b_Net_count 61 = .ok (.getfield 59, 3) := by decide +kernel
theorem d_Net_count_64 : decode b_Net_count 64 = .ok (.getfield 165, 3) := by decide +kernel
theorem d_Net_count_67 : decode b_Net_count 67 = .ok (.iload_n 2, 1) := by decide +kernel
theorem d_Net_count_68 : decode b_Net_count 68 = .ok (.iaload, 1) := by decide +kernel
theorem d_Net_count_69 : decode b_Net_count 69 = .ok (.ireturn, 1) := by decide +kernel
theorem d_Net_count_70 : decode b_Net_count 70 = .ok (.aload_n 0, 1) := by decide +kernel
theorem d_Net_count_71 : decode b_Net_count 71 = .ok (.getfield 59, 3) := by decide +kernel
theorem d_Net_count_74 : decode b_Net_count 74 = .ok (.getfield 81, 3) := by decide +kernel
theorem d_Net_count_77 : decode b_Net_count 77 = .ok (.iload_n 2, 1) := by decide +kernel
theorem d_Net_count_78 : decode b_Net_count 78 = .ok (.iaload, 1) := by decide +kernel
theorem d_Net_count_79 : decode b_Net_count 79 = .ok (.ireturn, 1) := by decide +kernel
theorem d_Net_count_80 : decode b_Net_count 80 = .ok (.iconst (-1), 1) := by decide +kernel
theorem d_Net_count_81 : decode b_Net_count 81 = .ok (.ireturn, 1) := by decide +kernel
theorem d_Net_advertise_0 : decode b_Net_advertise 0 = .ok (.iconst 0, 1) := by decide +kernel
theorem d_Net_advertise_1 : decode b_Net_advertise 1 = .ok (.istore_n 2, 1) := by decide +kernel
theorem d_Net_advertise_2 : decode b_Net_advertise 2 = .ok (.iload_n 2, 1) := by decide +kernel
theorem d_Net_advertise_3 : decode b_Net_advertise 3 = .ok (.iconst 2, 1) := by decide +kernel
theorem d_Net_advertise_4 : decode b_Net_advertise 4 = .ok (.if_icmp .ge 34, 3) := by decide +kernel
theorem d_Net_advertise_7 : decode b_Net_advertise 7 = .ok (.aload_n 0, 1) := by decide +kernel
theorem d_Net_advertise_8 : decode b_Net_advertise 8 = .ok (.getfield 31, 3) := by decide +kernel
theorem d_Net_advertise_11 : decode b_Net_advertise 11 = .ok (.iload_n 2, 1) := by decide +kernel
theorem d_Net_advertise_12 : decode b_Net_advertise 12 = .ok (.aaload, 1) := by decide +kernel
theorem d_Net_advertise_13 : decode b_Net_advertise 13 = .ok (.getfield 75, 3) := by decide +kernel
theorem d_Net_advertise_16 : decode b_Net_advertise 16 = .ok (.iload_n 1, 1) := by decide +kernel
theorem d_Net_advertise_17 : decode b_Net_advertise 17 = .ok (.if_icmp .ne 15, 3) := by decide +kernel
theorem d_Net_advertise_20 : decode b_Net_advertise 20 = .ok (.aload_n 0, 1) := by decide +kernel
theorem d_Net_advertise_21 : decode b_Net_advertise 21 = .ok (.getfield 18, 3) := by decide +kernel
theorem d_Net_advertise_24 : decode b_Net_advertise 24 = .ok (.iload_n 1, 1) := by decide +kernel
theorem d_Net_advertise_25 : decode b_Net_advertise 25 = .ok (.iconst 1, 1) := by decide +kernel
theorem d_Net_advertise_26 : decode b_Net_advertise 26 = .ok (.iload_n 2, 1) := by decide +kernel
theorem d_Net_advertise_27 : decode b_Net_advertise 27 = .ok (.iload_n 1, 1) := by decide +kernel
theorem d_Net_advertise_28 : decode b_Net_advertise 28 = .ok (.invokevirtual 177, 3) := by decide +kernel
theorem d_Net_advertise_31 : decode b_Net_advertise 31 = .ok (.pop, 1) := by decide +kernel
theorem d_Net_advertise_32 : decode b_Net_advertise 32 = .ok (.iinc 2 1, 3) := by decide +kernel
theorem d_Net_advertise_35 : decode b_Net_advertise 35 = .ok (.goto (-33), 3) := by decide +kernel
theorem d_Net_advertise_38 : decode b_Net_advertise 38 = .ok (.return_, 1) := by decide +kernel
theorem d_Net_passOneTick_0 : decode b_Net_passOneTick 0 = .ok (.aload_n 0, 1) := by decide +kernel
theorem d_Net_passOneTick_1 : decode b_Net_passOneTick 1 = .ok (.getfield 18, 3) := by decide +kernel
theorem d_Net_passOneTick_4 : decode b_Net_passOneTick 4 = .ok (.dup, 1) := by decide +kernel
theorem d_Net_passOneTick_5 : decode b_Net_passOneTick 5 = .ok (.getfield 150, 3) := by decide +kernel
theorem d_Net_passOneTick_8 : decode b_Net_passOneTick 8 = .ok (.iconst 1, 1) := by decide +kernel
theorem d_Net_passOneTick_9 : decode b_Net_passOneTick 9 = .ok (.iadd, 1) := by decide +kernel
theorem d_Net_passOneTick_10 : decode b_Net_passOneTick 10 = .ok (.putfield 150, 3) := by decide +kernel
theorem d_Net_passOneTick_13 : decode b_Net_passOneTick 13 = .ok (.aload_n 0, 1) := by decide +kernel
theorem d_Net_passOneTick_14 : decode b_Net_passOneTick 14 = .ok (.getfield 18, 3) := by decide +kernel
theorem d_Net_passOneTick_17 : decode b_Net_passOneTick 17 = .ok (.getfield 150, 3) := by decide +kernel
theorem d_Net_passOneTick_20 : decode b_Net_passOneTick 20 = .ok (.iconst 4, 1) := by decide +kernel
theorem d_Net_passOneTick_21 : decode b_Net_passOneTick 21 = .ok (.irem, 1) := by decide +kernel
theorem d_Net_passOneTick_22 : decode b_Net_passOneTick 22 = .ok (.ifCond .ne 21, 3) := by decide +kernel
theorem d_Net_passOneTick_25 : decode b_Net_passOneTick 25 = .ok (.iconst 0, 1) := by decide +kernel
theorem d_Net_passOneTick_26 : decode b_Net_passOneTick 26 = .ok (.istore_n 1, 1) := by decide +kernel
theorem d_Net_passOneTick_27 : decode b_Net_passOneTick 27 = .ok (.iload_n 1, 1) := by decide +kernel
theorem d_Net_passOneTick_28 : decode b_Net_passOneTick 28 = .ok (.iconst 4, 1) := by decide +kernel
theorem d_Net_passOneTick_29 : decode b_Net_passOneTick 29 = .ok (.if_icmp .ge 14, 3) := by decide +kernel
theorem d_Net_passOneTick_32 : decode b_Net_passOneTick 32 = .ok (.aload_n 0, 1) := by decide +kernel
theorem d_Net_passOneTick_33 : decode b_Net_passOneTick 33 = .ok (.iload_n 1, 1) := by decide +kernel
theorem d_Net_passOneTick_34 : decode b_Net_passOneTick 34 = .ok (.invokevirtual 168, 3) := by decide +kernel
theorem d_Net_passOneTick_37 : decode b_Net_passOneTick 37 = .ok (.iinc 1 1, 3) := by decide +kernel
theorem d_Net_passOneTick_40 : decode b_Net_passOneTick 40 = .ok (.goto (-13), 3) := by decide +kernel
theorem d_Net_passOneTick_43 : decode b_Net_passOneTick 43 = .ok (.iconst 0, 1) := by decide +kernel
theorem d_Net_passOneTick_44 : decode b_Net_passOneTick 44 = .ok (.istore_n 1, 1) := by decide +kernel
theorem d_Net_passOneTick_45 : decode b_Net_passOneTick 45 = .ok (.iload_n 1, 1) := by decide +kernel
theorem d_Net_passOneTick_46 : decode b_Net_passOneTick 46 = .ok (.iconst 2, 1) := by decide +kernel
theorem d_Net_passOneTick_47 : decode b_Net_passOneTick 47 = .ok (.if_icmp .ge 18, 3) := by decide +kernel
theorem d_Net_passOneTick_50 : decode b_Net_passOneTick 50 = .ok (.aload_n 0, 1) := by decide +kernel
theorem d_Net_passOneTick_51 : decode b_Net_passOneTick 51 = .ok (.getfield 31, 3) := by decide +kernel
theorem d_Net_passOneTick_54 : decode b_Net_passOneTick 54 = .ok (.iload_n 1, 1) := by decide +kernel
theorem d_Net_passOneTick_55 : decode b_Net_passOneTick 55 = .ok (.aaload, 1) := by decide +kernel
theorem d_Net_passOneTick_56 : decode b_Net_passOneTick 56 = .ok (.invokevirtual 171, 3) := by decide +kernel
theorem d_Net_passOneTick_59 : decode b_Net_passOneTick 59 = .ok (.iinc 1 1, 3) := by decide +kernel
theorem d_Net_passOneTick_62 : decode b_Net_passOneTick 62 = .ok (.goto (-17), 3) := by decide +kernel
theorem d_Net_passOneTick_65 : decode b_Net_passOneTick 65 = .ok (.iconst 0, 1) := by decide +kernel
theorem d_Net_passOneTick_66 : decode b_Net_passOneTick 66 = .ok (.istore_n 1, 1) := by decide +kernel
theorem d_Net_passOneTick_67 : decode b_Net_passOneTick 67 = .ok (.iload_n 1, 1) := by decide +kernel
theorem d_Net_passOneTick_68 : decode b_Net_passOneTick 68 = .ok (.iconst 2, 1) := by decide +kernel
theorem d_Net_passOneTick_69 : decode b_Net_passOneTick 69 = .ok (.if_icmp .ge 17, 3) := by decide +kernel
theorem d_Net_passOneTick_72 : decode b_Net_passOneTick 72 = .ok (.aload_n 0, 1) := by decide +kernel
theorem d_Net_passOneTick_73 : decode b_Net_passOneTick 73 = .ok (.getfield 59, 3) := by decide +kernel
theorem d_Net_passOneTick_76 : decode b_Net_passOneTick 76 = .ok (.iload_n 1, 1) := by decide +kernel
theorem d_Net_passOneTick_77 : decode b_Net_passOneTick 77 = .ok (.invokevirtual 174, 3) := by decide +kernel
theorem d_Net_passOneTick_80 : decode b_Net_passOneTick 80 = .ok (.iinc 1 1, 3) := by decide +kernel
theorem d_Net_passOneTick_83 : decode b_Net_passOneTick 83 = .ok (.goto (-16), 3) := by decide +kernel
theorem d_Net_passOneTick_86 : decode b_Net_passOneTick 86 = .ok (.return_, 1) := by decide +kernel
theorem d_Net_tick_0 : decode b_Net_tick 0 = .ok (.iload_n 1, 1) := by decide +kernel
theorem d_Net_tick_1 : decode b_Net_tick 1 = .ok (.iconst 1, 1) := by decide +kernel
theorem d_Net_tick_2 : decode b_Net_tick 2 = .ok (.bipush 20, 2) := by decide +kernel
theorem d_Net_tick_4 : decode b_Net_tick 4 = .ok (.invokestatic 11, 3) := by decide +kernel
theorem d_Net_tick_7 : decode b_Net_tick 7 = .ok (.ifCond .ne 5, 3) := by decide +kernel
theorem d_Net_tick_10 : decode b_Net_tick 10 = .ok (.iconst 0, 1) := by decide +kernel
theorem d_Net_tick_11 : decode b_Net_tick 11 = .ok (.ireturn, 1) := by decide +kernel
theorem d_Net_tick_12 : decode b_Net_tick 12 = .ok (.iconst 0, 1) := by decide +kernel
theorem d_Net_tick_13 : decode b_Net_tick 13 = .ok (.istore_n 2, 1) := by decide +kernel
theorem d_Net_tick_14 : decode b_Net_tick 14 = .ok (.iload_n 2, 1) := by decide +kernel
theorem d_Net_tick_15 : decode b_Net_tick 15 = .ok (.iload_n 1, 1) := by decide +kernel
theorem d_Net_tick_16 : decode b_Net_tick 16 = .ok (.if_icmp .ge 13, 3) := by decide +kernel
theorem d_Net_tick_19 : decode b_Net_tick 19 = .ok (.aload_n 0, 1) := by decide +kernel
theorem d_Net_tick_20 : decode b_Net_tick 20 = .ok (.invokevirtual 78, 3) := by decide +kernel
theorem d_Net_tick_23 : decode b_Net_tick 23 = .ok (.iinc 2 1, 3) := by decide +kernel
theorem d_Net_tick_26 : decode b_Net_tick 26 = .ok (.goto (-12), 3) := by decide +kernel
theorem d_Net_tick_29 : decode b_Net_tick 29 = .ok (.iconst 1, 1) := by decide +kernel
theorem d_Net_tick_30 : decode b_Net_tick 30 = .ok (.ireturn, 1) := by decide +kernel
end
section
theorem t_1 : (Jvm.Cond.initialized "RoamingNet") ∈ lw_tbl := List.mem_append_right _ (List.mem_of_getElem? (i := 1) (by decide +kernel))
theorem t_2 : (Jvm.Cond.initialized "RoamingNet$Wire") ∈ lw_tbl := List.mem_append_right _ (List.mem_of_getElem? (i := 2) (by decide +kernel))
theorem t_3 : (Jvm.Cond.initialized "RoamingNet$Message") ∈ lw_tbl := List.mem_append_right _ (List.mem_of_getElem? (i := 3) (by decide +kernel))
theorem t_4 : (Jvm.Cond.initialized "RoamingNet$Mobile") ∈ lw_tbl := List.mem_append_right _ (List.mem_of_getElem? (i := 4) (by decide +kernel))
theorem t_5 : (Jvm.Cond.initialized "RoamingNet$HomeAgent") ∈ lw_tbl := List.mem_append_right _ (List.mem_of_getElem? (i := 5) (by decide +kernel))
theorem t_6 : (Jvm.Cond.initialized "RoamingNet$ForeignAgent") ∈ lw_tbl := List.mem_append_right _ (List.mem_of_getElem? (i := 6) (by decide +kernel))
theorem t_7 : (Jvm.Cond.initialized "RoamingNet$Correspondent") ∈ lw_tbl := List.mem_append_right _ (List.mem_of_getElem? (i := 7) (by decide +kernel))
theorem t_9 : (Jvm.Cond.initialized "java/lang/Math") ∈ lw_tbl := List.mem_append_right _ (List.mem_of_getElem? (i := 9) (by decide +kernel))
theorem t_18 : (Jvm.Cond.methodLink "RoamingNet" (11 : Nat) ({ cls := "RoamingNet", name := "isWithin", desc := "(III)Z" } : Jvm.MethodName)) ∈ lw_tbl := List.mem_append_right _ (List.mem_of_getElem? (i := 18) (by decide +kernel))
theorem t_19 : (Jvm.Cond.static ({ cls := "RoamingNet", name := "isWithin", desc := "(III)Z" } : Jvm.MethodName)) ∈ lw_tbl := List.mem_append_right _ (List.mem_of_getElem? (i := 19) (by decide +kernel))
theorem t_20 : (Jvm.Cond.code ({ cls := "RoamingNet", name := "isWithin", desc := "(III)Z" } : Jvm.MethodName) prog_1_method_21_code (3 : Nat) (Option.some Jvm.ClassFile.FieldType.boolean)) ∈ lw_tbl := List.mem_append_right _ (List.mem_of_getElem? (i := 20) (by decide +kernel))
theorem t_34 : (Jvm.Cond.fieldLink "RoamingNet$Message" (9 : Nat) "RoamingNet$Message" "kind" "I") ∈ lw_tbl := List.mem_append_right _ (List.mem_of_getElem? (i := 34) (by decide +kernel))
theorem t_35 : (Jvm.Cond.fieldLinkNest "RoamingNet$Mobile" (38 : Nat) "RoamingNet$Message" "kind" "I" "RoamingNet") ∈ lw_tbl := List.mem_append_right _ (List.mem_of_getElem? (i := 35) (by decide +kernel))
theorem t_36 : (Jvm.Cond.fieldLinkNest "RoamingNet$HomeAgent" (37 : Nat) "RoamingNet$Message" "kind" "I" "RoamingNet") ∈ lw_tbl := List.mem_append_right _ (List.mem_of_getElem? (i := 36) (by decide +kernel))
theorem t_37 : (Jvm.Cond.fieldLinkNest "RoamingNet$Correspondent" (43 : Nat) "RoamingNet$Message" "kind" "I" "RoamingNet") ∈ lw_tbl := List.mem_append_right _ (List.mem_of_getElem? (i := 37) (by decide +kernel))
theorem t_38 : (Jvm.Cond.fieldLinkNest "RoamingNet$ForeignAgent" (47 : Nat) "RoamingNet$Message" "kind" "I" "RoamingNet") ∈ lw_tbl := List.mem_append_right _ (List.mem_of_getElem? (i := 38) (by decide +kernel))
theorem t_39 : (Jvm.Cond.fieldLink "RoamingNet$Message" (15 : Nat) "RoamingNet$Message" "target" "I") ∈ lw_tbl := List.mem_append_right _ (List.mem_of_getElem? (i := 39) (by decide +kernel))
theorem t_40 : (Jvm.Cond.fieldLinkNest "RoamingNet$Wire" (45 : Nat) "RoamingNet$Message" "target" "I" "RoamingNet") ∈ lw_tbl := List.mem_append_right _ (List.mem_of_getElem? (i := 40) (by decide +kernel))
theorem t_41 : (Jvm.Cond.fieldLinkNest "RoamingNet" (180 : Nat) "RoamingNet$Message" "target" "I" "RoamingNet") ∈ lw_tbl := List.mem_append_right _ (List.mem_of_getElem? (i := 41) (by decide +kernel))
theorem t_42 : (Jvm.Cond.fieldLinkNest "RoamingNet$Mobile" (32 : Nat) "RoamingNet$Message" "network" "I" "RoamingNet") ∈ lw_tbl := List.mem_append_right _ (List.mem_of_getElem? (i := 42) (by decide +kernel))
theorem t_43 : (Jvm.Cond.fieldLink "RoamingNet$Message" (24 : Nat) "RoamingNet$Message" "network" "I") ∈ lw_tbl := List.mem_append_right _ (List.mem_of_getElem? (i := 43) (by decide +kernel))
theorem t_44 : (Jvm.Cond.fieldLinkNest "RoamingNet$Wire" (38 : Nat) "RoamingNet$Message" "network" "I" "RoamingNet") ∈ lw_tbl := List.mem_append_right _ (List.mem_of_getElem? (i := 44) (by decide +kernel))
theorem t_45 : (Jvm.Cond.fieldLink "RoamingNet$Message" (18 : Nat) "RoamingNet$Message" "mobile" "I") ∈ lw_tbl := List.mem_append_right _ (List.mem_of_getElem? (i := 45) (by decide +kernel))
theorem t_46 : (Jvm.Cond.fieldLinkNest "RoamingNet$Correspondent" (38 : Nat) "RoamingNet$Message" "mobile" "I" "RoamingNet") ∈ lw_tbl := List.mem_append_right _ (List.mem_of_getElem? (i := 46) (by decide +kernel))
theorem t_47 : (Jvm.Cond.fieldLinkNest "RoamingNet$HomeAgent" (46 : Nat) "RoamingNet$Message" "mobile" "I" "RoamingNet") ∈ lw_tbl := List.mem_append_right _ (List.mem_of_getElem? (i := 47) (by decide +kernel))
theorem t_48 : (Jvm.Cond.fieldLinkNest "RoamingNet$ForeignAgent" (59 : Nat) "RoamingNet$Message" "mobile" "I" "RoamingNet") ∈ lw_tbl := List.mem_append_right _ (List.mem_of_getElem? (i := 48) (by decide +kernel))
theorem t_49 : (Jvm.Cond.fieldLinkNest "RoamingNet" (183 : Nat) "RoamingNet$Message" "mobile" "I" "RoamingNet") ∈ lw_tbl := List.mem_append_right _ (List.mem_of_getElem? (i := 49) (by decide +kernel))
theorem t_50 : (Jvm.Cond.fieldLink "RoamingNet$Message" (21 : Nat) "RoamingNet$Message" "number" "I") ∈ lw_tbl := List.mem_append_right _ (List.mem_of_getElem? (i := 50) (by decide +kernel))
theorem t_51 : (Jvm.Cond.fieldLinkNest "RoamingNet$Mobile" (41 : Nat) "RoamingNet$Message" "number" "I" "RoamingNet") ∈ lw_tbl := List.mem_append_right _ (List.mem_of_getElem? (i := 51) (by decide +kernel))
theorem t_52 : (Jvm.Cond.fieldLinkNest "RoamingNet$Correspondent" (46 : Nat) "RoamingNet$Message" "number" "I" "RoamingNet") ∈ lw_tbl := List.mem_append_right _ (List.mem_of_getElem? (i := 52) (by decide +kernel))
theorem t_53 : (Jvm.Cond.fieldLinkNest "RoamingNet$HomeAgent" (49 : Nat) "RoamingNet$Message" "number" "I" "RoamingNet") ∈ lw_tbl := List.mem_append_right _ (List.mem_of_getElem? (i := 53) (by decide +kernel))
theorem t_54 : (Jvm.Cond.fieldLinkNest "RoamingNet$ForeignAgent" (62 : Nat) "RoamingNet$Message" "number" "I" "RoamingNet") ∈ lw_tbl := List.mem_append_right _ (List.mem_of_getElem? (i := 54) (by decide +kernel))
theorem t_55 : (Jvm.Cond.fieldLink "RoamingNet$Message" (27 : Nat) "RoamingNet$Message" "careOf" "I") ∈ lw_tbl := List.mem_append_right _ (List.mem_of_getElem? (i := 55) (by decide +kernel))
theorem t_56 : (Jvm.Cond.fieldLinkNest "RoamingNet$HomeAgent" (69 : Nat) "RoamingNet$Message" "careOf" "I" "RoamingNet") ∈ lw_tbl := List.mem_append_right _ (List.mem_of_getElem? (i := 56) (by decide +kernel))
theorem t_57 : (Jvm.Cond.fieldLinkNest "RoamingNet$Mobile" (83 : Nat) "RoamingNet$Message" "careOf" "I" "RoamingNet") ∈ lw_tbl := List.mem_append_right _ (List.mem_of_getElem? (i := 57) (by decide +kernel))
theorem t_58 : (Jvm.Cond.fieldLinkNest "RoamingNet$ForeignAgent" (69 : Nat) "RoamingNet$Message" "careOf" "I" "RoamingNet") ∈ lw_tbl := List.mem_append_right _ (List.mem_of_getElem? (i := 58) (by decide +kernel))
theorem t_59 : (Jvm.Cond.fieldLinkNest "RoamingNet" (120 : Nat) "RoamingNet$Message" "careOf" "I" "RoamingNet") ∈ lw_tbl := List.mem_append_right _ (List.mem_of_getElem? (i := 59) (by decide +kernel))
theorem t_60 : (Jvm.Cond.fieldLink "RoamingNet$Message" (30 : Nat) "RoamingNet$Message" "code" "I") ∈ lw_tbl := List.mem_append_right _ (List.mem_of_getElem? (i := 60) (by decide +kernel))
theorem t_61 : (Jvm.Cond.fieldLinkNest "RoamingNet$HomeAgent" (78 : Nat) "RoamingNet$Message" "code" "I" "RoamingNet") ∈ lw_tbl := List.mem_append_right _ (List.mem_of_getElem? (i := 61) (by decide +kernel))
theorem t_62 : (Jvm.Cond.fieldLinkNest "RoamingNet$Mobile" (102 : Nat) "RoamingNet$Message" "code" "I" "RoamingNet") ∈ lw_tbl := List.mem_append_right _ (List.mem_of_getElem? (i := 62) (by decide +kernel))
theorem t_63 : (Jvm.Cond.fieldLinkNest "RoamingNet$ForeignAgent" (80 : Nat) "RoamingNet$Message" "code" "I" "RoamingNet") ∈ lw_tbl := List.mem_append_right _ (List.mem_of_getElem? (i := 63) (by decide +kernel))
theorem t_64 : (Jvm.Cond.fieldLink "RoamingNet$Message" (33 : Nat) "RoamingNet$Message" "lifetime" "I") ∈ lw_tbl := List.mem_append_right _ (List.mem_of_getElem? (i := 64) (by decide +kernel))
theorem t_65 : (Jvm.Cond.fieldLinkNest "RoamingNet$HomeAgent" (60 : Nat) "RoamingNet$Message" "lifetime" "I" "RoamingNet") ∈ lw_tbl := List.mem_append_right _ (List.mem_of_getElem? (i := 65) (by decide +kernel))
theorem t_66 : (Jvm.Cond.fieldLinkNest "RoamingNet$Mobile" (86 : Nat) "RoamingNet$Message" "lifetime" "I" "RoamingNet") ∈ lw_tbl := List.mem_append_right _ (List.mem_of_getElem? (i := 66) (by decide +kernel))
theorem t_67 : (Jvm.Cond.fieldLinkNest "RoamingNet$ForeignAgent" (87 : Nat) "RoamingNet$Message" "lifetime" "I" "RoamingNet") ∈ lw_tbl := List.mem_append_right _ (List.mem_of_getElem? (i := 67) (by decide +kernel))
theorem t_68 : (Jvm.Cond.fieldLinkNest "RoamingNet" (123 : Nat) "RoamingNet$Message" "lifetime" "I" "RoamingNet") ∈ lw_tbl := List.mem_append_right _ (List.mem_of_getElem? (i := 68) (by decide +kernel))
theorem t_69 : (Jvm.Cond.fieldLink "RoamingNet$Message" (36 : Nat) "RoamingNet$Message" "seal" "I") ∈ lw_tbl := List.mem_append_right _ (List.mem_of_getElem? (i := 69) (by decide +kernel))
theorem t_70 : (Jvm.Cond.fieldLinkNest "RoamingNet$HomeAgent" (85 : Nat) "RoamingNet$Message" "seal" "I" "RoamingNet") ∈ lw_tbl := List.mem_append_right _ (List.mem_of_getElem? (i := 70) (by decide +kernel))
theorem t_71 : (Jvm.Cond.fieldLinkNest "RoamingNet$Mobile" (96 : Nat) "RoamingNet$Message" "seal" "I" "RoamingNet") ∈ lw_tbl := List.mem_append_right _ (List.mem_of_getElem? (i := 71) (by decide +kernel))
theorem t_72 : (Jvm.Cond.fieldLinkNest "RoamingNet" (126 : Nat) "RoamingNet$Message" "seal" "I" "RoamingNet") ∈ lw_tbl := List.mem_append_right _ (List.mem_of_getElem? (i := 72) (by decide +kernel))
theorem t_73 : (Jvm.Cond.lays "RoamingNet$Message" "RoamingNet$Message" "kind" "I") ∈ lw_tbl := List.mem_append_right _ (List.mem_of_getElem? (i := 73) (by decide +kernel))
theorem t_75 : (Jvm.Cond.lays "RoamingNet$Message" "RoamingNet$Message" "target" "I") ∈ lw_tbl := List.mem_append_right _ (List.mem_of_getElem? (i := 75) (by decide +kernel))
theorem t_77 : (Jvm.Cond.lays "RoamingNet$Message" "RoamingNet$Message" "network" "I") ∈ lw_tbl := List.mem_append_right _ (List.mem_of_getElem? (i := 77) (by decide +kernel))
theorem t_79 : (Jvm.Cond.lays "RoamingNet$Message" "RoamingNet$Message" "mobile" "I") ∈ lw_tbl := List.mem_append_right _ (List.mem_of_getElem? (i := 79) (by decide +kernel))
theorem t_81 : (Jvm.Cond.lays "RoamingNet$Message" "RoamingNet$Message" "number" "I") ∈ lw_tbl := List.mem_append_right _ (List.mem_of_getElem? (i := 81) (by decide +kernel))
theorem t_83 : (Jvm.Cond.lays "RoamingNet$Message" "RoamingNet$Message" "careOf" "I") ∈ lw_tbl := List.mem_append_right _ (List.mem_of_getElem? (i := 83) (by decide +kernel))
theorem t_85 : (Jvm.Cond.lays "RoamingNet$Message" "RoamingNet$Message" "code" "I") ∈ lw_tbl := List.mem_append_right _ (List.mem_of_getElem? (i := 85) (by decide +kernel))
theorem t_87 : (Jvm.Cond.lays "RoamingNet$Message" "RoamingNet$Message" "lifetime" "I") ∈ lw_tbl := List.mem_append_right _ (List.mem_of_getElem? (i := 87) (by decide +kernel))
theorem t_89 : (Jvm.Cond.lays "RoamingNet$Message" "RoamingNet$Message" "seal" "I") ∈ lw_tbl := List.mem_append_right _ (List.mem_of_getElem? (i := 89) (by decide +kernel))
theorem t_92 : (Jvm.Cond.fieldLink "RoamingNet$Wire" (11 : Nat) "RoamingNet$Wire" "rows" "[LRoamingNet$Message;") ∈ lw_tbl := List.mem_append_right _ (List.mem_of_getElem? (i := 92) (by decide +kernel))
theorem t_93 : (Jvm.Cond.fieldLinkNest "RoamingNet" (91 : Nat) "RoamingNet$Wire" "rows" "[LRoamingNet$Message;" "RoamingNet") ∈ lw_tbl := List.mem_append_right _ (List.mem_of_getElem? (i := 93) (by decide +kernel))
theorem t_94 : (Jvm.Cond.fieldLink "RoamingNet$Wire" (18 : Nat) "RoamingNet$Wire" "size" "I") ∈ lw_tbl := List.mem_append_right _ (List.mem_of_getElem? (i := 94) (by decide +kernel))
theorem t_95 : (Jvm.Cond.fieldLinkNest "RoamingNet" (129 : Nat) "RoamingNet$Wire" "size" "I" "RoamingNet") ∈ lw_tbl := List.mem_append_right _ (List.mem_of_getElem? (i := 95) (by decide +kernel))
theorem t_96 : (Jvm.Cond.fieldLinkNest "RoamingNet$HomeAgent" (32 : Nat) "RoamingNet$Wire" "clock" "I" "RoamingNet") ∈ lw_tbl := List.mem_append_right _ (List.mem_of_getElem? (i := 96) (by decide +kernel))
theorem t_97 : (Jvm.Cond.fieldLinkNest "RoamingNet$ForeignAgent" (32 : Nat) "RoamingNet$Wire" "clock" "I" "RoamingNet") ∈ lw_tbl := List.mem_append_right _ (List.mem_of_getElem? (i := 97) (by decide +kernel))
theorem t_98 : (Jvm.Cond.fieldLinkNest "RoamingNet$Correspondent" (34 : Nat) "RoamingNet$Wire" "clock" "I" "RoamingNet") ∈ lw_tbl := List.mem_append_right _ (List.mem_of_getElem? (i := 98) (by decide +kernel))
theorem t_99 : (Jvm.Cond.fieldLinkNest "RoamingNet$Mobile" (55 : Nat) "RoamingNet$Wire" "clock" "I" "RoamingNet") ∈ lw_tbl := List.mem_append_right _ (List.mem_of_getElem? (i := 99) (by decide +kernel))
theorem t_100 : (Jvm.Cond.fieldLinkNest "RoamingNet" (150 : Nat) "RoamingNet$Wire" "clock" "I" "RoamingNet") ∈ lw_tbl := List.mem_append_right _ (List.mem_of_getElem? (i := 100) (by decide +kernel))
theorem t_101 : (Jvm.Cond.laysFinal "RoamingNet$Wire" "RoamingNet$Wire" "rows" "[LRoamingNet$Message;") ∈ lw_tbl := List.mem_append_right _ (List.mem_of_getElem? (i := 101) (by decide +kernel))
theorem t_103 : (Jvm.Cond.lays "RoamingNet$Wire" "RoamingNet$Wire" "size" "I") ∈ lw_tbl := List.mem_append_right _ (List.mem_of_getElem? (i := 103) (by decide +kernel))
theorem t_105 : (Jvm.Cond.lays "RoamingNet$Wire" "RoamingNet$Wire" "clock" "I") ∈ lw_tbl := List.mem_append_right _ (List.mem_of_getElem? (i := 105) (by decide +kernel))
theorem t_117 : (Jvm.Cond.constant "RoamingNet$Mobile" (25 : Nat) (2147483647 : Int32)) ∈ lw_tbl := List.mem_append_right _ (List.mem_of_getElem? (i := 117) (by decide +kernel))
theorem t_118 : (Jvm.Cond.fieldLink "RoamingNet$Mobile" (9 : Nat) "RoamingNet$Mobile" "self" "I") ∈ lw_tbl := List.mem_append_right _ (List.mem_of_getElem? (i := 118) (by decide +kernel))
theorem t_119 : (Jvm.Cond.fieldLink "RoamingNet$Mobile" (15 : Nat) "RoamingNet$Mobile" "life" "I") ∈ lw_tbl := List.mem_append_right _ (List.mem_of_getElem? (i := 119) (by decide +kernel))
theorem t_120 : (Jvm.Cond.fieldLink "RoamingNet$Mobile" (18 : Nat) "RoamingNet$Mobile" "wire" "LRoamingNet$Wire;") ∈ lw_tbl := List.mem_append_right _ (List.mem_of_getElem? (i := 120) (by decide +kernel))
theorem t_121 : (Jvm.Cond.fieldLinkNest "RoamingNet" (67 : Nat) "RoamingNet$Mobile" "secret" "I" "RoamingNet") ∈ lw_tbl := List.mem_append_right _ (List.mem_of_getElem? (i := 121) (by decide +kernel))
theorem t_122 : (Jvm.Cond.fieldLink "RoamingNet$Mobile" (89 : Nat) "RoamingNet$Mobile" "secret" "I") ∈ lw_tbl := List.mem_append_right _ (List.mem_of_getElem? (i := 122) (by decide +kernel))
theorem t_123 : (Jvm.Cond.fieldLink "RoamingNet$Mobile" (37 : Nat) "RoamingNet$Mobile" "network" "I") ∈ lw_tbl := List.mem_append_right _ (List.mem_of_getElem? (i := 123) (by decide +kernel))
theorem t_124 : (Jvm.Cond.fieldLinkNest "RoamingNet" (75 : Nat) "RoamingNet$Mobile" "network" "I" "RoamingNet") ∈ lw_tbl := List.mem_append_right _ (List.mem_of_getElem? (i := 124) (by decide +kernel))
theorem t_125 : (Jvm.Cond.fieldLink "RoamingNet$Mobile" (76 : Nat) "RoamingNet$Mobile" "lastId" "I") ∈ lw_tbl := List.mem_append_right _ (List.mem_of_getElem? (i := 125) (by decide +kernel))
theorem t_126 : (Jvm.Cond.fieldLink "RoamingNet$Mobile" (22 : Nat) "RoamingNet$Mobile" "agent" "I") ∈ lw_tbl := List.mem_append_right _ (List.mem_of_getElem? (i := 126) (by decide +kernel))
theorem t_127 : (Jvm.Cond.fieldLinkNest "RoamingNet" (136 : Nat) "RoamingNet$Mobile" "agent" "I" "RoamingNet") ∈ lw_tbl := List.mem_append_right _ (List.mem_of_getElem? (i := 127) (by decide +kernel))
theorem t_128 : (Jvm.Cond.fieldLink "RoamingNet$Mobile" (26 : Nat) "RoamingNet$Mobile" "agentUntil" "I") ∈ lw_tbl := List.mem_append_right _ (List.mem_of_getElem? (i := 128) (by decide +kernel))
theorem t_129 : (Jvm.Cond.fieldLink "RoamingNet$Mobile" (29 : Nat) "RoamingNet$Mobile" "heard" "I") ∈ lw_tbl := List.mem_append_right _ (List.mem_of_getElem? (i := 129) (by decide +kernel))
theorem t_130 : (Jvm.Cond.fieldLink "RoamingNet$Mobile" (60 : Nat) "RoamingNet$Mobile" "heardUntil" "I") ∈ lw_tbl := List.mem_append_right _ (List.mem_of_getElem? (i := 130) (by decide +kernel))
theorem t_131 : (Jvm.Cond.fieldLink "RoamingNet$Mobile" (63 : Nat) "RoamingNet$Mobile" "openId" "I") ∈ lw_tbl := List.mem_append_right _ (List.mem_of_getElem? (i := 131) (by decide +kernel))
theorem t_132 : (Jvm.Cond.fieldLinkNest "RoamingNet" (139 : Nat) "RoamingNet$Mobile" "openId" "I" "RoamingNet") ∈ lw_tbl := List.mem_append_right _ (List.mem_of_getElem? (i := 132) (by decide +kernel))
theorem t_133 : (Jvm.Cond.fieldLink "RoamingNet$Mobile" (66 : Nat) "RoamingNet$Mobile" "openAgent" "I") ∈ lw_tbl := List.mem_append_right _ (List.mem_of_getElem? (i := 133) (by decide +kernel))
theorem t_134 : (Jvm.Cond.fieldLink "RoamingNet$Mobile" (99 : Nat) "RoamingNet$Mobile" "openSince" "I") ∈ lw_tbl := List.mem_append_right _ (List.mem_of_getElem? (i := 134) (by decide +kernel))
theorem t_135 : (Jvm.Cond.fieldLink "RoamingNet$Mobile" (108 : Nat) "RoamingNet$Mobile" "received" "I") ∈ lw_tbl := List.mem_append_right _ (List.mem_of_getElem? (i := 135) (by decide +kernel))
theorem t_136 : (Jvm.Cond.fieldLinkNest "RoamingNet" (159 : Nat) "RoamingNet$Mobile" "received" "I" "RoamingNet") ∈ lw_tbl := List.mem_append_right _ (List.mem_of_getElem? (i := 136) (by decide +kernel))
theorem t_137 : (Jvm.Cond.laysFinal "RoamingNet$Mobile" "RoamingNet$Mobile" "self" "I") ∈ lw_tbl := List.mem_append_right _ (List.mem_of_getElem? (i := 137) (by decide +kernel))
theorem t_139 : (Jvm.Cond.laysFinal "RoamingNet$Mobile" "RoamingNet$Mobile" "life" "I") ∈ lw_tbl := List.mem_append_right _ (List.mem_of_getElem? (i := 139) (by decide +kernel))
theorem t_141 : (Jvm.Cond.laysFinal "RoamingNet$Mobile" "RoamingNet$Mobile" "wire" "LRoamingNet$Wire;") ∈ lw_tbl := List.mem_append_right _ (List.mem_of_getElem? (i := 141) (by decide +kernel))
theorem t_143 : (Jvm.Cond.lays "RoamingNet$Mobile" "RoamingNet$Mobile" "secret" "I") ∈ lw_tbl := List.mem_append_right _ (List.mem_of_getElem? (i := 143) (by decide +kernel))
theorem t_145 : (Jvm.Cond.lays "RoamingNet$Mobile" "RoamingNet$Mobile" "network" "I") ∈ lw_tbl := List.mem_append_right _ (List.mem_of_getElem? (i := 145) (by decide +kernel))
theorem t_147 : (Jvm.Cond.lays "RoamingNet$Mobile" "RoamingNet$Mobile" "lastId" "I") ∈ lw_tbl := List.mem_append_right _ (List.mem_of_getElem? (i := 147) (by decide +kernel))
theorem t_149 : (Jvm.Cond.lays "RoamingNet$Mobile" "RoamingNet$Mobile" "agent" "I") ∈ lw_tbl := List.mem_append_right _ (List.mem_of_getElem? (i := 149) (by decide +kernel))
theorem t_151 : (Jvm.Cond.lays "RoamingNet$Mobile" "RoamingNet$Mobile" "agentUntil" "I") ∈ lw_tbl := List.mem_append_right _ (List.mem_of_getElem? (i := 151) (by decide +kernel))
theorem t_153 : (Jvm.Cond.lays "RoamingNet$Mobile" "RoamingNet$Mobile" "heard" "I") ∈ lw_tbl := List.mem_append_right _ (List.mem_of_getElem? (i := 153) (by decide +kernel))
theorem t_155 : (Jvm.Cond.lays "RoamingNet$Mobile" "RoamingNet$Mobile" "heardUntil" "I") ∈ lw_tbl := List.mem_append_right _ (List.mem_of_getElem? (i := 155) (by decide +kernel))
theorem t_157 : (Jvm.Cond.lays "RoamingNet$Mobile" "RoamingNet$Mobile" "openId" "I") ∈ lw_tbl := List.mem_append_right _ (List.mem_of_getElem? (i := 157) (by decide +kernel))
theorem t_159 : (Jvm.Cond.lays "RoamingNet$Mobile" "RoamingNet$Mobile" "openAgent" "I") ∈ lw_tbl := List.mem_append_right _ (List.mem_of_getElem? (i := 159) (by decide +kernel))
theorem t_161 : (Jvm.Cond.lays "RoamingNet$Mobile" "RoamingNet$Mobile" "openSince" "I") ∈ lw_tbl := List.mem_append_right _ (List.mem_of_getElem? (i := 161) (by decide +kernel))
theorem t_163 : (Jvm.Cond.lays "RoamingNet$Mobile" "RoamingNet$Mobile" "received" "I") ∈ lw_tbl := List.mem_append_right _ (List.mem_of_getElem? (i := 163) (by decide +kernel))
theorem t_172 : (Jvm.Cond.fieldLink "RoamingNet$HomeAgent" (9 : Nat) "RoamingNet$HomeAgent" "limit" "I") ∈ lw_tbl := List.mem_append_right _ (List.mem_of_getElem? (i := 172) (by decide +kernel))
theorem t_173 : (Jvm.Cond.fieldLink "RoamingNet$HomeAgent" (15 : Nat) "RoamingNet$HomeAgent" "wire" "LRoamingNet$Wire;") ∈ lw_tbl := List.mem_append_right _ (List.mem_of_getElem? (i := 173) (by decide +kernel))
theorem t_174 : (Jvm.Cond.fieldLink "RoamingNet$HomeAgent" (19 : Nat) "RoamingNet$HomeAgent" "secrets" "[I") ∈ lw_tbl := List.mem_append_right _ (List.mem_of_getElem? (i := 174) (by decide +kernel))
theorem t_175 : (Jvm.Cond.fieldLinkNest "RoamingNet" (71 : Nat) "RoamingNet$HomeAgent" "secrets" "[I" "RoamingNet") ∈ lw_tbl := List.mem_append_right _ (List.mem_of_getElem? (i := 175) (by decide +kernel))
theorem t_176 : (Jvm.Cond.fieldLink "RoamingNet$HomeAgent" (23 : Nat) "RoamingNet$HomeAgent" "lastAccepted" "[I") ∈ lw_tbl := List.mem_append_right _ (List.mem_of_getElem? (i := 176) (by decide +kernel))
theorem t_177 : (Jvm.Cond.fieldLink "RoamingNet$HomeAgent" (26 : Nat) "RoamingNet$HomeAgent" "careOf" "[I") ∈ lw_tbl := List.mem_append_right _ (List.mem_of_getElem? (i := 177) (by decide +kernel))
theorem t_178 : (Jvm.Cond.fieldLinkNest "RoamingNet" (145 : Nat) "RoamingNet$HomeAgent" "careOf" "[I" "RoamingNet") ∈ lw_tbl := List.mem_append_right _ (List.mem_of_getElem? (i := 178) (by decide +kernel))
theorem t_179 : (Jvm.Cond.fieldLink "RoamingNet$HomeAgent" (29 : Nat) "RoamingNet$HomeAgent" "boundUntil" "[I") ∈ lw_tbl := List.mem_append_right _ (List.mem_of_getElem? (i := 179) (by decide +kernel))
theorem t_180 : (Jvm.Cond.fieldLinkNest "RoamingNet" (147 : Nat) "RoamingNet$HomeAgent" "boundUntil" "[I" "RoamingNet") ∈ lw_tbl := List.mem_append_right _ (List.mem_of_getElem? (i := 180) (by decide +kernel))
theorem t_181 : (Jvm.Cond.laysFinal "RoamingNet$HomeAgent" "RoamingNet$HomeAgent" "limit" "I") ∈ lw_tbl := List.mem_append_right _ (List.mem_of_getElem? (i := 181) (by decide +kernel))
theorem t_183 : (Jvm.Cond.laysFinal "RoamingNet$HomeAgent" "RoamingNet$HomeAgent" "wire" "LRoamingNet$Wire;") ∈ lw_tbl := List.mem_append_right _ (List.mem_of_getElem? (i := 183) (by decide +kernel))
theorem t_185 : (Jvm.Cond.laysFinal "RoamingNet$HomeAgent" "RoamingNet$HomeAgent" "secrets" "[I") ∈ lw_tbl := List.mem_append_right _ (List.mem_of_getElem? (i := 185) (by decide +kernel))
theorem t_187 : (Jvm.Cond.laysFinal "RoamingNet$HomeAgent" "RoamingNet$HomeAgent" "lastAccepted" "[I") ∈ lw_tbl := List.mem_append_right _ (List.mem_of_getElem? (i := 187) (by decide +kernel))
theorem t_189 : (Jvm.Cond.laysFinal "RoamingNet$HomeAgent" "RoamingNet$HomeAgent" "careOf" "[I") ∈ lw_tbl := List.mem_append_right _ (List.mem_of_getElem? (i := 189) (by decide +kernel))
theorem t_191 : (Jvm.Cond.laysFinal "RoamingNet$HomeAgent" "RoamingNet$HomeAgent" "boundUntil" "[I") ∈ lw_tbl := List.mem_append_right _ (List.mem_of_getElem? (i := 191) (by decide +kernel))
theorem t_202 : (Jvm.Cond.fieldLink "RoamingNet$ForeignAgent" (9 : Nat) "RoamingNet$ForeignAgent" "self" "I") ∈ lw_tbl := List.mem_append_right _ (List.mem_of_getElem? (i := 202) (by decide +kernel))
theorem t_203 : (Jvm.Cond.fieldLink "RoamingNet$ForeignAgent" (15 : Nat) "RoamingNet$ForeignAgent" "places" "I") ∈ lw_tbl := List.mem_append_right _ (List.mem_of_getElem? (i := 203) (by decide +kernel))
theorem t_204 : (Jvm.Cond.fieldLink "RoamingNet$ForeignAgent" (18 : Nat) "RoamingNet$ForeignAgent" "wire" "LRoamingNet$Wire;") ∈ lw_tbl := List.mem_append_right _ (List.mem_of_getElem? (i := 204) (by decide +kernel))
theorem t_205 : (Jvm.Cond.fieldLink "RoamingNet$ForeignAgent" (22 : Nat) "RoamingNet$ForeignAgent" "visitUntil" "[I") ∈ lw_tbl := List.mem_append_right _ (List.mem_of_getElem? (i := 205) (by decide +kernel))
theorem t_206 : (Jvm.Cond.fieldLinkNest "RoamingNet" (156 : Nat) "RoamingNet$ForeignAgent" "visitUntil" "[I" "RoamingNet") ∈ lw_tbl := List.mem_append_right _ (List.mem_of_getElem? (i := 206) (by decide +kernel))
theorem t_207 : (Jvm.Cond.fieldLink "RoamingNet$ForeignAgent" (26 : Nat) "RoamingNet$ForeignAgent" "entryId" "[I") ∈ lw_tbl := List.mem_append_right _ (List.mem_of_getElem? (i := 207) (by decide +kernel))
theorem t_208 : (Jvm.Cond.fieldLink "RoamingNet$ForeignAgent" (29 : Nat) "RoamingNet$ForeignAgent" "entryUntil" "[I") ∈ lw_tbl := List.mem_append_right _ (List.mem_of_getElem? (i := 208) (by decide +kernel))
theorem t_209 : (Jvm.Cond.laysFinal "RoamingNet$ForeignAgent" "RoamingNet$ForeignAgent" "self" "I") ∈ lw_tbl := List.mem_append_right _ (List.mem_of_getElem? (i := 209) (by decide +kernel))
theorem t_211 : (Jvm.Cond.laysFinal "RoamingNet$ForeignAgent" "RoamingNet$ForeignAgent" "places" "I") ∈ lw_tbl := List.mem_append_right _ (List.mem_of_getElem? (i := 211) (by decide +kernel))
theorem t_213 : (Jvm.Cond.laysFinal "RoamingNet$ForeignAgent" "RoamingNet$ForeignAgent" "wire" "LRoamingNet$Wire;") ∈ lw_tbl := List.mem_append_right _ (List.mem_of_getElem? (i := 213) (by decide +kernel))
theorem t_215 : (Jvm.Cond.laysFinal "RoamingNet$ForeignAgent" "RoamingNet$ForeignAgent" "visitUntil" "[I") ∈ lw_tbl := List.mem_append_right _ (List.mem_of_getElem? (i := 215) (by decide +kernel))
theorem t_217 : (Jvm.Cond.laysFinal "RoamingNet$ForeignAgent" "RoamingNet$ForeignAgent" "entryId" "[I") ∈ lw_tbl := List.mem_append_right _ (List.mem_of_getElem? (i := 217) (by decide +kernel))
theorem t_219 : (Jvm.Cond.laysFinal "RoamingNet$ForeignAgent" "RoamingNet$ForeignAgent" "entryUntil" "[I") ∈ lw_tbl := List.mem_append_right _ (List.mem_of_getElem? (i := 219) (by decide +kernel))
theorem t_228 : (Jvm.Cond.fieldLink "RoamingNet$Correspondent" (9 : Nat) "RoamingNet$Correspondent" "wire" "LRoamingNet$Wire;") ∈ lw_tbl := List.mem_append_right _ (List.mem_of_getElem? (i := 228) (by decide +kernel))
theorem t_229 : (Jvm.Cond.fieldLink "RoamingNet$Correspondent" (15 : Nat) "RoamingNet$Correspondent" "said" "[I") ∈ lw_tbl := List.mem_append_right _ (List.mem_of_getElem? (i := 229) (by decide +kernel))
theorem t_230 : (Jvm.Cond.fieldLinkNest "RoamingNet" (81 : Nat) "RoamingNet$Correspondent" "said" "[I" "RoamingNet") ∈ lw_tbl := List.mem_append_right _ (List.mem_of_getElem? (i := 230) (by decide +kernel))
theorem t_231 : (Jvm.Cond.fieldLink "RoamingNet$Correspondent" (19 : Nat) "RoamingNet$Correspondent" "sent" "[I") ∈ lw_tbl := List.mem_append_right _ (List.mem_of_getElem? (i := 231) (by decide +kernel))
theorem t_232 : (Jvm.Cond.fieldLinkNest "RoamingNet" (162 : Nat) "RoamingNet$Correspondent" "sent" "[I" "RoamingNet") ∈ lw_tbl := List.mem_append_right _ (List.mem_of_getElem? (i := 232) (by decide +kernel))
theorem t_233 : (Jvm.Cond.fieldLink "RoamingNet$Correspondent" (22 : Nat) "RoamingNet$Correspondent" "acked" "[I") ∈ lw_tbl := List.mem_append_right _ (List.mem_of_getElem? (i := 233) (by decide +kernel))
theorem t_234 : (Jvm.Cond.fieldLinkNest "RoamingNet" (165 : Nat) "RoamingNet$Correspondent" "acked" "[I" "RoamingNet") ∈ lw_tbl := List.mem_append_right _ (List.mem_of_getElem? (i := 234) (by decide +kernel))
theorem t_235 : (Jvm.Cond.fieldLink "RoamingNet$Correspondent" (25 : Nat) "RoamingNet$Correspondent" "last" "[I") ∈ lw_tbl := List.mem_append_right _ (List.mem_of_getElem? (i := 235) (by decide +kernel))
theorem t_236 : (Jvm.Cond.laysFinal "RoamingNet$Correspondent" "RoamingNet$Correspondent" "wire" "LRoamingNet$Wire;") ∈ lw_tbl := List.mem_append_right _ (List.mem_of_getElem? (i := 236) (by decide +kernel))
theorem t_238 : (Jvm.Cond.laysFinal "RoamingNet$Correspondent" "RoamingNet$Correspondent" "said" "[I") ∈ lw_tbl := List.mem_append_right _ (List.mem_of_getElem? (i := 238) (by decide +kernel))
theorem t_240 : (Jvm.Cond.laysFinal "RoamingNet$Correspondent" "RoamingNet$Correspondent" "sent" "[I") ∈ lw_tbl := List.mem_append_right _ (List.mem_of_getElem? (i := 240) (by decide +kernel))
theorem t_242 : (Jvm.Cond.laysFinal "RoamingNet$Correspondent" "RoamingNet$Correspondent" "acked" "[I") ∈ lw_tbl := List.mem_append_right _ (List.mem_of_getElem? (i := 242) (by decide +kernel))
theorem t_244 : (Jvm.Cond.laysFinal "RoamingNet$Correspondent" "RoamingNet$Correspondent" "last" "[I") ∈ lw_tbl := List.mem_append_right _ (List.mem_of_getElem? (i := 244) (by decide +kernel))
theorem t_247 : (Jvm.Cond.fieldLink "RoamingNet" (18 : Nat) "RoamingNet" "wire" "LRoamingNet$Wire;") ∈ lw_tbl := List.mem_append_right _ (List.mem_of_getElem? (i := 247) (by decide +kernel))
theorem t_248 : (Jvm.Cond.fieldLink "RoamingNet" (25 : Nat) "RoamingNet" "arrived" "LRoamingNet$Message;") ∈ lw_tbl := List.mem_append_right _ (List.mem_of_getElem? (i := 248) (by decide +kernel))
theorem t_249 : (Jvm.Cond.fieldLink "RoamingNet" (31 : Nat) "RoamingNet" "mobiles" "[LRoamingNet$Mobile;") ∈ lw_tbl := List.mem_append_right _ (List.mem_of_getElem? (i := 249) (by decide +kernel))
theorem t_250 : (Jvm.Cond.fieldLink "RoamingNet" (43 : Nat) "RoamingNet" "home" "LRoamingNet$HomeAgent;") ∈ lw_tbl := List.mem_append_right _ (List.mem_of_getElem? (i := 250) (by decide +kernel))
theorem t_251 : (Jvm.Cond.fieldLink "RoamingNet" (49 : Nat) "RoamingNet" "foreign" "[LRoamingNet$ForeignAgent;") ∈ lw_tbl := List.mem_append_right _ (List.mem_of_getElem? (i := 251) (by decide +kernel))
theorem t_252 : (Jvm.Cond.fieldLink "RoamingNet" (59 : Nat) "RoamingNet" "correspondent" "LRoamingNet$Correspondent;") ∈ lw_tbl := List.mem_append_right _ (List.mem_of_getElem? (i := 252) (by decide +kernel))
theorem t_253 : (Jvm.Cond.laysFinal "RoamingNet" "RoamingNet" "wire" "LRoamingNet$Wire;") ∈ lw_tbl := List.mem_append_right _ (List.mem_of_getElem? (i := 253) (by decide +kernel))
theorem t_255 : (Jvm.Cond.laysFinal "RoamingNet" "RoamingNet" "arrived" "LRoamingNet$Message;") ∈ lw_tbl := List.mem_append_right _ (List.mem_of_getElem? (i := 255) (by decide +kernel))
theorem t_257 : (Jvm.Cond.laysFinal "RoamingNet" "RoamingNet" "mobiles" "[LRoamingNet$Mobile;") ∈ lw_tbl := List.mem_append_right _ (List.mem_of_getElem? (i := 257) (by decide +kernel))
theorem t_259 : (Jvm.Cond.laysFinal "RoamingNet" "RoamingNet" "home" "LRoamingNet$HomeAgent;") ∈ lw_tbl := List.mem_append_right _ (List.mem_of_getElem? (i := 259) (by decide +kernel))
theorem t_261 : (Jvm.Cond.laysFinal "RoamingNet" "RoamingNet" "foreign" "[LRoamingNet$ForeignAgent;") ∈ lw_tbl := List.mem_append_right _ (List.mem_of_getElem? (i := 261) (by decide +kernel))
theorem t_263 : (Jvm.Cond.laysFinal "RoamingNet" "RoamingNet" "correspondent" "LRoamingNet$Correspondent;") ∈ lw_tbl := List.mem_append_right _ (List.mem_of_getElem? (i := 263) (by decide +kernel))
theorem t_270 : (Jvm.Cond.methodLink "RoamingNet" (63 : Nat) ({ cls := "RoamingNet", name := "isMobile", desc := "(I)Z" } : Jvm.MethodName)) ∈ lw_tbl := List.mem_append_right _ (List.mem_of_getElem? (i := 270) (by decide +kernel))
theorem t_271 : (Jvm.Cond.static ({ cls := "RoamingNet", name := "isMobile", desc := "(I)Z" } : Jvm.MethodName)) ∈ lw_tbl := List.mem_append_right _ (List.mem_of_getElem? (i := 271) (by decide +kernel))
theorem t_272 : (Jvm.Cond.code ({ cls := "RoamingNet", name := "isMobile", desc := "(I)Z" } : Jvm.MethodName) prog_1_method_22_code (1 : Nat) (Option.some Jvm.ClassFile.FieldType.boolean)) ∈ lw_tbl := List.mem_append_right _ (List.mem_of_getElem? (i := 272) (by decide +kernel))
theorem t_281 : (Jvm.Cond.methodLink "RoamingNet" (78 : Nat) ({ cls := "RoamingNet", name := "passOneTick", desc := "()V" } : Jvm.MethodName)) ∈ lw_tbl := List.mem_append_right _ (List.mem_of_getElem? (i := 281) (by decide +kernel))
theorem t_283 : (Jvm.Cond.instanceMethod ({ cls := "RoamingNet", name := "passOneTick", desc := "()V" } : Jvm.MethodName)) ∈ lw_tbl := List.mem_append_right _ (List.mem_of_getElem? (i := 283) (by decide +kernel))
theorem t_284 : (Jvm.Cond.code ({ cls := "RoamingNet", name := "passOneTick", desc := "()V" } : Jvm.MethodName) prog_1_method_18_code (2 : Nat) (Option.none : Option Jvm.ClassFile.FieldType)) ∈ lw_tbl := List.mem_append_right _ (List.mem_of_getElem? (i := 284) (by decide +kernel))
theorem t_285 : (Jvm.Cond.methodLink "RoamingNet" (168 : Nat) ({ cls := "RoamingNet", name := "advertise", desc := "(I)V" } : Jvm.MethodName)) ∈ lw_tbl := List.mem_append_right _ (List.mem_of_getElem? (i := 285) (by decide +kernel))
theorem t_287 : (Jvm.Cond.instanceMethod ({ cls := "RoamingNet", name := "advertise", desc := "(I)V" } : Jvm.MethodName)) ∈ lw_tbl := List.mem_append_right _ (List.mem_of_getElem? (i := 287) (by decide +kernel))
theorem t_288 : (Jvm.Cond.code ({ cls := "RoamingNet", name := "advertise", desc := "(I)V" } : Jvm.MethodName) prog_1_method_19_code (3 : Nat) (Option.none : Option Jvm.ClassFile.FieldType)) ∈ lw_tbl := List.mem_append_right _ (List.mem_of_getElem? (i := 288) (by decide +kernel))
theorem t_289 : (Jvm.Cond.methodLinkNest "RoamingNet" (177 : Nat) ({ cls := "RoamingNet$Wire", name := "sendInNetwork", desc := "(IIII)LRoamingNet$Message;" } : Jvm.MethodName) "RoamingNet") ∈ lw_tbl := List.mem_append_right _ (List.mem_of_getElem? (i := 289) (by decide +kernel))
theorem t_291 : (Jvm.Cond.instanceMethod ({ cls := "RoamingNet$Wire", name := "sendInNetwork", desc := "(IIII)LRoamingNet$Message;" } : Jvm.MethodName)) ∈ lw_tbl := List.mem_append_right _ (List.mem_of_getElem? (i := 291) (by decide +kernel))
theorem t_292 : (Jvm.Cond.code ({ cls := "RoamingNet$Wire", name := "sendInNetwork", desc := "(IIII)LRoamingNet$Message;" } : Jvm.MethodName) prog_7_method_7_code (6 : Nat) (Option.some (Jvm.ClassFile.FieldType.object "RoamingNet$Message"))) ∈ lw_tbl := List.mem_append_right _ (List.mem_of_getElem? (i := 292) (by decide +kernel))
theorem t_293 : (Jvm.Cond.methodLink "RoamingNet$Wire" (34 : Nat) ({ cls := "RoamingNet$Wire", name := "sendTo", desc := "(IIII)LRoamingNet$Message;" } : Jvm.MethodName)) ∈ lw_tbl := List.mem_append_right _ (List.mem_of_getElem? (i := 293) (by decide +kernel))
theorem t_295 : (Jvm.Cond.instanceMethod ({ cls := "RoamingNet$Wire", name := "sendTo", desc := "(IIII)LRoamingNet$Message;" } : Jvm.MethodName)) ∈ lw_tbl := List.mem_append_right _ (List.mem_of_getElem? (i := 295) (by decide +kernel))
theorem t_296 : (Jvm.Cond.code ({ cls := "RoamingNet$Wire", name := "sendTo", desc := "(IIII)LRoamingNet$Message;" } : Jvm.MethodName) prog_7_method_6_code (6 : Nat) (Option.some (Jvm.ClassFile.FieldType.object "RoamingNet$Message"))) ∈ lw_tbl := List.mem_append_right _ (List.mem_of_getElem? (i := 296) (by decide +kernel))
theorem t_297 : (Jvm.Cond.methodLink "RoamingNet$Wire" (26 : Nat) ({ cls := "RoamingNet$Wire", name := "nextRow", desc := "()LRoamingNet$Message;" } : Jvm.MethodName)) ∈ lw_tbl := List.mem_append_right _ (List.mem_of_getElem? (i := 297) (by decide +kernel))
theorem t_299 : (Jvm.Cond.instanceMethod ({ cls := "RoamingNet$Wire", name := "nextRow", desc := "()LRoamingNet$Message;" } : Jvm.MethodName)) ∈ lw_tbl := List.mem_append_right _ (List.mem_of_getElem? (i := 299) (by decide +kernel))
theorem t_300 : (Jvm.Cond.code ({ cls := "RoamingNet$Wire", name := "nextRow", desc := "()LRoamingNet$Message;" } : Jvm.MethodName) prog_7_method_4_code (1 : Nat) (Option.some (Jvm.ClassFile.FieldType.object "RoamingNet$Message"))) ∈ lw_tbl := List.mem_append_right _ (List.mem_of_getElem? (i := 300) (by decide +kernel))
theorem t_301 : (Jvm.Cond.methodLink "RoamingNet$Wire" (22 : Nat) ({ cls := "RoamingNet$Wire", name := "isFull", desc := "()Z" } : Jvm.MethodName)) ∈ lw_tbl := List.mem_append_right _ (List.mem_of_getElem? (i := 301) (by decide +kernel))
theorem t_303 : (Jvm.Cond.instanceMethod ({ cls := "RoamingNet$Wire", name := "isFull", desc := "()Z" } : Jvm.MethodName)) ∈ lw_tbl := List.mem_append_right _ (List.mem_of_getElem? (i := 303) (by decide +kernel))
theorem t_304 : (Jvm.Cond.code ({ cls := "RoamingNet$Wire", name := "isFull", desc := "()Z" } : Jvm.MethodName) prog_7_method_3_code (1 : Nat) (Option.some Jvm.ClassFile.FieldType.boolean)) ∈ lw_tbl := List.mem_append_right _ (List.mem_of_getElem? (i := 304) (by decide +kernel))
theorem t_305 : (Jvm.Cond.methodLinkNest "RoamingNet$Wire" (30 : Nat) ({ cls := "RoamingNet$Message", name := "begin", desc := "(IIII)V" } : Jvm.MethodName) "RoamingNet") ∈ lw_tbl := List.mem_append_right _ (List.mem_of_getElem? (i := 305) (by decide +kernel))
theorem t_307 : (Jvm.Cond.instanceMethod ({ cls := "RoamingNet$Message", name := "begin", desc := "(IIII)V" } : Jvm.MethodName)) ∈ lw_tbl := List.mem_append_right _ (List.mem_of_getElem? (i := 307) (by decide +kernel))
theorem t_308 : (Jvm.Cond.code ({ cls := "RoamingNet$Message", name := "begin", desc := "(IIII)V" } : Jvm.MethodName) prog_5_method_2_code (5 : Nat) (Option.none : Option Jvm.ClassFile.FieldType)) ∈ lw_tbl := List.mem_append_right _ (List.mem_of_getElem? (i := 308) (by decide +kernel))
theorem t_309 : (Jvm.Cond.methodLinkNest "RoamingNet" (171 : Nat) ({ cls := "RoamingNet$Mobile", name := "notice", desc := "()V" } : Jvm.MethodName) "RoamingNet") ∈ lw_tbl := List.mem_append_right _ (List.mem_of_getElem? (i := 309) (by decide +kernel))
theorem t_311 : (Jvm.Cond.instanceMethod ({ cls := "RoamingNet$Mobile", name := "notice", desc := "()V" } : Jvm.MethodName)) ∈ lw_tbl := List.mem_append_right _ (List.mem_of_getElem? (i := 311) (by decide +kernel))
theorem t_312 : (Jvm.Cond.code ({ cls := "RoamingNet$Mobile", name := "notice", desc := "()V" } : Jvm.MethodName) prog_6_method_8_code (1 : Nat) (Option.none : Option Jvm.ClassFile.FieldType)) ∈ lw_tbl := List.mem_append_right _ (List.mem_of_getElem? (i := 312) (by decide +kernel))
theorem t_313 : (Jvm.Cond.methodLink "RoamingNet$Mobile" (73 : Nat) ({ cls := "RoamingNet$Mobile", name := "registerWith", desc := "(I)V" } : Jvm.MethodName)) ∈ lw_tbl := List.mem_append_right _ (List.mem_of_getElem? (i := 313) (by decide +kernel))
theorem t_315 : (Jvm.Cond.instanceMethod ({ cls := "RoamingNet$Mobile", name := "registerWith", desc := "(I)V" } : Jvm.MethodName)) ∈ lw_tbl := List.mem_append_right _ (List.mem_of_getElem? (i := 315) (by decide +kernel))
theorem t_316 : (Jvm.Cond.code ({ cls := "RoamingNet$Mobile", name := "registerWith", desc := "(I)V" } : Jvm.MethodName) prog_6_method_5_code (3 : Nat) (Option.none : Option Jvm.ClassFile.FieldType)) ∈ lw_tbl := List.mem_append_right _ (List.mem_of_getElem? (i := 316) (by decide +kernel))
theorem t_317 : (Jvm.Cond.methodLinkNest "RoamingNet$Mobile" (79 : Nat) ({ cls := "RoamingNet$Wire", name := "sendTo", desc := "(IIII)LRoamingNet$Message;" } : Jvm.MethodName) "RoamingNet") ∈ lw_tbl := List.mem_append_right _ (List.mem_of_getElem? (i := 317) (by decide +kernel))
theorem t_318 : (Jvm.Cond.methodLinkNest "RoamingNet$Mobile" (92 : Nat) ({ cls := "RoamingNet$Message", name := "requestSeal", desc := "(I)I" } : Jvm.MethodName) "RoamingNet") ∈ lw_tbl := List.mem_append_right _ (List.mem_of_getElem? (i := 318) (by decide +kernel))
theorem t_320 : (Jvm.Cond.instanceMethod ({ cls := "RoamingNet$Message", name := "requestSeal", desc := "(I)I" } : Jvm.MethodName)) ∈ lw_tbl := List.mem_append_right _ (List.mem_of_getElem? (i := 320) (by decide +kernel))
theorem t_321 : (Jvm.Cond.code ({ cls := "RoamingNet$Message", name := "requestSeal", desc := "(I)I" } : Jvm.MethodName) prog_5_method_5_code (3 : Nat) (Option.some Jvm.ClassFile.FieldType.int)) ∈ lw_tbl := List.mem_append_right _ (List.mem_of_getElem? (i := 321) (by decide +kernel))
theorem t_322 : (Jvm.Cond.methodLink "RoamingNet$Message" (41 : Nat) ({ cls := "RoamingNet$Message", name := "stir", desc := "(II)I" } : Jvm.MethodName)) ∈ lw_tbl := List.mem_append_right _ (List.mem_of_getElem? (i := 322) (by decide +kernel))
theorem t_323 : (Jvm.Cond.static ({ cls := "RoamingNet$Message", name := "stir", desc := "(II)I" } : Jvm.MethodName)) ∈ lw_tbl := List.mem_append_right _ (List.mem_of_getElem? (i := 323) (by decide +kernel))
theorem t_324 : (Jvm.Cond.code ({ cls := "RoamingNet$Message", name := "stir", desc := "(II)I" } : Jvm.MethodName) prog_5_method_7_code (3 : Nat) (Option.some Jvm.ClassFile.FieldType.int)) ∈ lw_tbl := List.mem_append_right _ (List.mem_of_getElem? (i := 324) (by decide +kernel))
theorem t_325 : (Jvm.Cond.constant "RoamingNet$Message" (45 : Nat) (16777619 : Int32)) ∈ lw_tbl := List.mem_append_right _ (List.mem_of_getElem? (i := 325) (by decide +kernel))
theorem t_326 : (Jvm.Cond.methodLinkNest "RoamingNet" (174 : Nat) ({ cls := "RoamingNet$Correspondent", name := "resendIfDue", desc := "(I)V" } : Jvm.MethodName) "RoamingNet") ∈ lw_tbl := List.mem_append_right _ (List.mem_of_getElem? (i := 326) (by decide +kernel))
theorem t_328 : (Jvm.Cond.instanceMethod ({ cls := "RoamingNet$Correspondent", name := "resendIfDue", desc := "(I)V" } : Jvm.MethodName)) ∈ lw_tbl := List.mem_append_right _ (List.mem_of_getElem? (i := 328) (by decide +kernel))
theorem t_329 : (Jvm.Cond.code ({ cls := "RoamingNet$Correspondent", name := "resendIfDue", desc := "(I)V" } : Jvm.MethodName) prog_2_method_4_code (3 : Nat) (Option.none : Option Jvm.ClassFile.FieldType)) ∈ lw_tbl := List.mem_append_right _ (List.mem_of_getElem? (i := 329) (by decide +kernel))
theorem t_330 : (Jvm.Cond.methodLinkNest "RoamingNet$Correspondent" (28 : Nat) ({ cls := "RoamingNet$Wire", name := "sendTo", desc := "(IIII)LRoamingNet$Message;" } : Jvm.MethodName) "RoamingNet") ∈ lw_tbl := List.mem_append_right _ (List.mem_of_getElem? (i := 330) (by decide +kernel))
theorem t_335 : (Jvm.Cond.methodLinkNest "RoamingNet" (84 : Nat) ({ cls := "RoamingNet$Correspondent", name := "pump", desc := "(I)V" } : Jvm.MethodName) "RoamingNet") ∈ lw_tbl := List.mem_append_right _ (List.mem_of_getElem? (i := 335) (by decide +kernel))
theorem t_337 : (Jvm.Cond.instanceMethod ({ cls := "RoamingNet$Correspondent", name := "pump", desc := "(I)V" } : Jvm.MethodName)) ∈ lw_tbl := List.mem_append_right _ (List.mem_of_getElem? (i := 337) (by decide +kernel))
theorem t_338 : (Jvm.Cond.code ({ cls := "RoamingNet$Correspondent", name := "pump", desc := "(I)V" } : Jvm.MethodName) prog_2_method_2_code (2 : Nat) (Option.none : Option Jvm.ClassFile.FieldType)) ∈ lw_tbl := List.mem_append_right _ (List.mem_of_getElem? (i := 338) (by decide +kernel))
theorem t_343 : (Jvm.Cond.methodLinkNest "RoamingNet" (88 : Nat) ({ cls := "RoamingNet$Wire", name := "holds", desc := "(I)Z" } : Jvm.MethodName) "RoamingNet") ∈ lw_tbl := List.mem_append_right _ (List.mem_of_getElem? (i := 343) (by decide +kernel))
theorem t_345 : (Jvm.Cond.instanceMethod ({ cls := "RoamingNet$Wire", name := "holds", desc := "(I)Z" } : Jvm.MethodName)) ∈ lw_tbl := List.mem_append_right _ (List.mem_of_getElem? (i := 345) (by decide +kernel))
theorem t_346 : (Jvm.Cond.code ({ cls := "RoamingNet$Wire", name := "holds", desc := "(I)Z" } : Jvm.MethodName) prog_7_method_2_code (2 : Nat) (Option.some Jvm.ClassFile.FieldType.boolean)) ∈ lw_tbl := List.mem_append_right _ (List.mem_of_getElem? (i := 346) (by decide +kernel))
theorem t_347 : (Jvm.Cond.methodLinkNest "RoamingNet" (95 : Nat) ({ cls := "RoamingNet$Message", name := "copyFrom", desc := "(LRoamingNet$Message;)V" } : Jvm.MethodName) "RoamingNet") ∈ lw_tbl := List.mem_append_right _ (List.mem_of_getElem? (i := 347) (by decide +kernel))
theorem t_349 : (Jvm.Cond.instanceMethod ({ cls := "RoamingNet$Message", name := "copyFrom", desc := "(LRoamingNet$Message;)V" } : Jvm.MethodName)) ∈ lw_tbl := List.mem_append_right _ (List.mem_of_getElem? (i := 349) (by decide +kernel))
theorem t_350 : (Jvm.Cond.code ({ cls := "RoamingNet$Message", name := "copyFrom", desc := "(LRoamingNet$Message;)V" } : Jvm.MethodName) prog_5_method_3_code (2 : Nat) (Option.none : Option Jvm.ClassFile.FieldType)) ∈ lw_tbl := List.mem_append_right _ (List.mem_of_getElem? (i := 350) (by decide +kernel))
theorem t_351 : (Jvm.Cond.methodLinkNest "RoamingNet" (99 : Nat) ({ cls := "RoamingNet$Wire", name := "remove", desc := "(I)V" } : Jvm.MethodName) "RoamingNet") ∈ lw_tbl := List.mem_append_right _ (List.mem_of_getElem? (i := 351) (by decide +kernel))
theorem t_353 : (Jvm.Cond.instanceMethod ({ cls := "RoamingNet$Wire", name := "remove", desc := "(I)V" } : Jvm.MethodName)) ∈ lw_tbl := List.mem_append_right _ (List.mem_of_getElem? (i := 353) (by decide +kernel))
theorem t_354 : (Jvm.Cond.code ({ cls := "RoamingNet$Wire", name := "remove", desc := "(I)V" } : Jvm.MethodName) prog_7_method_5_code (4 : Nat) (Option.none : Option Jvm.ClassFile.FieldType)) ∈ lw_tbl := List.mem_append_right _ (List.mem_of_getElem? (i := 354) (by decide +kernel))
theorem t_355 : (Jvm.Cond.methodLink "RoamingNet" (102 : Nat) ({ cls := "RoamingNet", name := "handOver", desc := "(LRoamingNet$Message;)V" } : Jvm.MethodName)) ∈ lw_tbl := List.mem_append_right _ (List.mem_of_getElem? (i := 355) (by decide +kernel))
theorem t_357 : (Jvm.Cond.instanceMethod ({ cls := "RoamingNet", name := "handOver", desc := "(LRoamingNet$Message;)V" } : Jvm.MethodName)) ∈ lw_tbl := List.mem_append_right _ (List.mem_of_getElem? (i := 357) (by decide +kernel))
theorem t_358 : (Jvm.Cond.code ({ cls := "RoamingNet", name := "handOver", desc := "(LRoamingNet$Message;)V" } : Jvm.MethodName) prog_1_method_20_code (2 : Nat) (Option.none : Option Jvm.ClassFile.FieldType)) ∈ lw_tbl := List.mem_append_right _ (List.mem_of_getElem? (i := 358) (by decide +kernel))
theorem t_359 : (Jvm.Cond.methodLinkNest "RoamingNet" (186 : Nat) ({ cls := "RoamingNet$Mobile", name := "receive", desc := "(LRoamingNet$Message;)V" } : Jvm.MethodName) "RoamingNet") ∈ lw_tbl := List.mem_append_right _ (List.mem_of_getElem? (i := 359) (by decide +kernel))
theorem t_361 : (Jvm.Cond.instanceMethod ({ cls := "RoamingNet$Mobile", name := "receive", desc := "(LRoamingNet$Message;)V" } : Jvm.MethodName)) ∈ lw_tbl := List.mem_append_right _ (List.mem_of_getElem? (i := 361) (by decide +kernel))
theorem t_362 : (Jvm.Cond.code ({ cls := "RoamingNet$Mobile", name := "receive", desc := "(LRoamingNet$Message;)V" } : Jvm.MethodName) prog_6_method_2_code (2 : Nat) (Option.none : Option Jvm.ClassFile.FieldType)) ∈ lw_tbl := List.mem_append_right _ (List.mem_of_getElem? (i := 362) (by decide +kernel))
theorem t_363 : (Jvm.Cond.methodLink "RoamingNet$Mobile" (44 : Nat) ({ cls := "RoamingNet$Mobile", name := "takeAdvert", desc := "(I)V" } : Jvm.MethodName)) ∈ lw_tbl := List.mem_append_right _ (List.mem_of_getElem? (i := 363) (by decide +kernel))
theorem t_365 : (Jvm.Cond.instanceMethod ({ cls := "RoamingNet$Mobile", name := "takeAdvert", desc := "(I)V" } : Jvm.MethodName)) ∈ lw_tbl := List.mem_append_right _ (List.mem_of_getElem? (i := 365) (by decide +kernel))
theorem t_366 : (Jvm.Cond.code ({ cls := "RoamingNet$Mobile", name := "takeAdvert", desc := "(I)V" } : Jvm.MethodName) prog_6_method_3_code (3 : Nat) (Option.none : Option Jvm.ClassFile.FieldType)) ∈ lw_tbl := List.mem_append_right _ (List.mem_of_getElem? (i := 366) (by decide +kernel))
theorem t_367 : (Jvm.Cond.methodLink "RoamingNet$Mobile" (69 : Nat) ({ cls := "RoamingNet$Mobile", name := "endsSoon", desc := "()Z" } : Jvm.MethodName)) ∈ lw_tbl := List.mem_append_right _ (List.mem_of_getElem? (i := 367) (by decide +kernel))
theorem t_369 : (Jvm.Cond.instanceMethod ({ cls := "RoamingNet$Mobile", name := "endsSoon", desc := "()Z" } : Jvm.MethodName)) ∈ lw_tbl := List.mem_append_right _ (List.mem_of_getElem? (i := 369) (by decide +kernel))
theorem t_370 : (Jvm.Cond.code ({ cls := "RoamingNet$Mobile", name := "endsSoon", desc := "()Z" } : Jvm.MethodName) prog_6_method_4_code (1 : Nat) (Option.some Jvm.ClassFile.FieldType.boolean)) ∈ lw_tbl := List.mem_append_right _ (List.mem_of_getElem? (i := 370) (by decide +kernel))
theorem t_371 : (Jvm.Cond.methodLink "RoamingNet$Mobile" (48 : Nat) ({ cls := "RoamingNet$Mobile", name := "takeReply", desc := "(LRoamingNet$Message;)V" } : Jvm.MethodName)) ∈ lw_tbl := List.mem_append_right _ (List.mem_of_getElem? (i := 371) (by decide +kernel))
theorem t_373 : (Jvm.Cond.instanceMethod ({ cls := "RoamingNet$Mobile", name := "takeReply", desc := "(LRoamingNet$Message;)V" } : Jvm.MethodName)) ∈ lw_tbl := List.mem_append_right _ (List.mem_of_getElem? (i := 373) (by decide +kernel))
theorem t_374 : (Jvm.Cond.code ({ cls := "RoamingNet$Mobile", name := "takeReply", desc := "(LRoamingNet$Message;)V" } : Jvm.MethodName) prog_6_method_6_code (2 : Nat) (Option.none : Option Jvm.ClassFile.FieldType)) ∈ lw_tbl := List.mem_append_right _ (List.mem_of_getElem? (i := 374) (by decide +kernel))
theorem t_375 : (Jvm.Cond.methodLinkNest "RoamingNet$Mobile" (105 : Nat) ({ cls := "RoamingNet$Message", name := "replySeal", desc := "(I)I" } : Jvm.MethodName) "RoamingNet") ∈ lw_tbl := List.mem_append_right _ (List.mem_of_getElem? (i := 375) (by decide +kernel))
theorem t_377 : (Jvm.Cond.instanceMethod ({ cls := "RoamingNet$Message", name := "replySeal", desc := "(I)I" } : Jvm.MethodName)) ∈ lw_tbl := List.mem_append_right _ (List.mem_of_getElem? (i := 377) (by decide +kernel))
theorem t_378 : (Jvm.Cond.code ({ cls := "RoamingNet$Message", name := "replySeal", desc := "(I)I" } : Jvm.MethodName) prog_5_method_6_code (3 : Nat) (Option.some Jvm.ClassFile.FieldType.int)) ∈ lw_tbl := List.mem_append_right _ (List.mem_of_getElem? (i := 378) (by decide +kernel))
theorem t_379 : (Jvm.Cond.methodLink "RoamingNet$Mobile" (52 : Nat) ({ cls := "RoamingNet$Mobile", name := "takeData", desc := "(I)V" } : Jvm.MethodName)) ∈ lw_tbl := List.mem_append_right _ (List.mem_of_getElem? (i := 379) (by decide +kernel))
theorem t_381 : (Jvm.Cond.instanceMethod ({ cls := "RoamingNet$Mobile", name := "takeData", desc := "(I)V" } : Jvm.MethodName)) ∈ lw_tbl := List.mem_append_right _ (List.mem_of_getElem? (i := 381) (by decide +kernel))
theorem t_382 : (Jvm.Cond.code ({ cls := "RoamingNet$Mobile", name := "takeData", desc := "(I)V" } : Jvm.MethodName) prog_6_method_7_code (2 : Nat) (Option.none : Option Jvm.ClassFile.FieldType)) ∈ lw_tbl := List.mem_append_right _ (List.mem_of_getElem? (i := 382) (by decide +kernel))
theorem t_383 : (Jvm.Cond.methodLinkNest "RoamingNet" (189 : Nat) ({ cls := "RoamingNet$Correspondent", name := "receive", desc := "(LRoamingNet$Message;)V" } : Jvm.MethodName) "RoamingNet") ∈ lw_tbl := List.mem_append_right _ (List.mem_of_getElem? (i := 383) (by decide +kernel))
theorem t_385 : (Jvm.Cond.instanceMethod ({ cls := "RoamingNet$Correspondent", name := "receive", desc := "(LRoamingNet$Message;)V" } : Jvm.MethodName)) ∈ lw_tbl := List.mem_append_right _ (List.mem_of_getElem? (i := 385) (by decide +kernel))
theorem t_386 : (Jvm.Cond.code ({ cls := "RoamingNet$Correspondent", name := "receive", desc := "(LRoamingNet$Message;)V" } : Jvm.MethodName) prog_2_method_3_code (3 : Nat) (Option.none : Option Jvm.ClassFile.FieldType)) ∈ lw_tbl := List.mem_append_right _ (List.mem_of_getElem? (i := 386) (by decide +kernel))
theorem t_387 : (Jvm.Cond.methodLink "RoamingNet$Correspondent" (49 : Nat) ({ cls := "RoamingNet$Correspondent", name := "pump", desc := "(I)V" } : Jvm.MethodName)) ∈ lw_tbl := List.mem_append_right _ (List.mem_of_getElem? (i := 387) (by decide +kernel))
theorem t_388 : (Jvm.Cond.methodLinkNest "RoamingNet" (190 : Nat) ({ cls := "RoamingNet$HomeAgent", name := "receive", desc := "(LRoamingNet$Message;)V" } : Jvm.MethodName) "RoamingNet") ∈ lw_tbl := List.mem_append_right _ (List.mem_of_getElem? (i := 388) (by decide +kernel))
theorem t_390 : (Jvm.Cond.instanceMethod ({ cls := "RoamingNet$HomeAgent", name := "receive", desc := "(LRoamingNet$Message;)V" } : Jvm.MethodName)) ∈ lw_tbl := List.mem_append_right _ (List.mem_of_getElem? (i := 390) (by decide +kernel))
theorem t_391 : (Jvm.Cond.code ({ cls := "RoamingNet$HomeAgent", name := "receive", desc := "(LRoamingNet$Message;)V" } : Jvm.MethodName) prog_4_method_3_code (2 : Nat) (Option.none : Option Jvm.ClassFile.FieldType)) ∈ lw_tbl := List.mem_append_right _ (List.mem_of_getElem? (i := 391) (by decide +kernel))
theorem t_392 : (Jvm.Cond.methodLink "RoamingNet$HomeAgent" (42 : Nat) ({ cls := "RoamingNet$HomeAgent", name := "takeRequest", desc := "(LRoamingNet$Message;)V" } : Jvm.MethodName)) ∈ lw_tbl := List.mem_append_right _ (List.mem_of_getElem? (i := 392) (by decide +kernel))
theorem t_394 : (Jvm.Cond.instanceMethod ({ cls := "RoamingNet$HomeAgent", name := "takeRequest", desc := "(LRoamingNet$Message;)V" } : Jvm.MethodName)) ∈ lw_tbl := List.mem_append_right _ (List.mem_of_getElem? (i := 394) (by decide +kernel))
theorem t_395 : (Jvm.Cond.code ({ cls := "RoamingNet$HomeAgent", name := "takeRequest", desc := "(LRoamingNet$Message;)V" } : Jvm.MethodName) prog_4_method_4_code (6 : Nat) (Option.none : Option Jvm.ClassFile.FieldType)) ∈ lw_tbl := List.mem_append_right _ (List.mem_of_getElem? (i := 395) (by decide +kernel))
theorem t_396 : (Jvm.Cond.methodLink "RoamingNet$HomeAgent" (56 : Nat) ({ cls := "RoamingNet$HomeAgent", name := "judge", desc := "(LRoamingNet$Message;)I" } : Jvm.MethodName)) ∈ lw_tbl := List.mem_append_right _ (List.mem_of_getElem? (i := 396) (by decide +kernel))
theorem t_398 : (Jvm.Cond.instanceMethod ({ cls := "RoamingNet$HomeAgent", name := "judge", desc := "(LRoamingNet$Message;)I" } : Jvm.MethodName)) ∈ lw_tbl := List.mem_append_right _ (List.mem_of_getElem? (i := 398) (by decide +kernel))
theorem t_399 : (Jvm.Cond.code ({ cls := "RoamingNet$HomeAgent", name := "judge", desc := "(LRoamingNet$Message;)I" } : Jvm.MethodName) prog_4_method_5_code (3 : Nat) (Option.some Jvm.ClassFile.FieldType.int)) ∈ lw_tbl := List.mem_append_right _ (List.mem_of_getElem? (i := 399) (by decide +kernel))
theorem t_400 : (Jvm.Cond.methodLinkNest "RoamingNet$HomeAgent" (88 : Nat) ({ cls := "RoamingNet$Message", name := "requestSeal", desc := "(I)I" } : Jvm.MethodName) "RoamingNet") ∈ lw_tbl := List.mem_append_right _ (List.mem_of_getElem? (i := 400) (by decide +kernel))
theorem t_401 : (Jvm.Cond.methodLink "RoamingNet$HomeAgent" (63 : Nat) ({ cls := "java/lang/Math", name := "min", desc := "(II)I" } : Jvm.MethodName)) ∈ lw_tbl := List.mem_append_right _ (List.mem_of_getElem? (i := 401) (by decide +kernel))
theorem t_402 : (Jvm.Cond.static ({ cls := "java/lang/Math", name := "min", desc := "(II)I" } : Jvm.MethodName)) ∈ lw_tbl := List.mem_append_right _ (List.mem_of_getElem? (i := 402) (by decide +kernel))
theorem t_403 : (Jvm.Cond.code ({ cls := "java/lang/Math", name := "min", desc := "(II)I" } : Jvm.MethodName) prog_10_method_69_code (2 : Nat) (Option.some Jvm.ClassFile.FieldType.int)) ∈ lw_tbl := List.mem_append_right _ (List.mem_of_getElem? (i := 403) (by decide +kernel))
theorem t_404 : (Jvm.Cond.methodLinkNest "RoamingNet$HomeAgent" (71 : Nat) ({ cls := "RoamingNet$Wire", name := "sendInNetwork", desc := "(IIII)LRoamingNet$Message;" } : Jvm.MethodName) "RoamingNet") ∈ lw_tbl := List.mem_append_right _ (List.mem_of_getElem? (i := 404) (by decide +kernel))
theorem t_405 : (Jvm.Cond.methodLinkNest "RoamingNet$HomeAgent" (75 : Nat) ({ cls := "RoamingNet$Wire", name := "sendTo", desc := "(IIII)LRoamingNet$Message;" } : Jvm.MethodName) "RoamingNet") ∈ lw_tbl := List.mem_append_right _ (List.mem_of_getElem? (i := 405) (by decide +kernel))
theorem t_406 : (Jvm.Cond.methodLinkNest "RoamingNet$HomeAgent" (81 : Nat) ({ cls := "RoamingNet$Message", name := "replySeal", desc := "(I)I" } : Jvm.MethodName) "RoamingNet") ∈ lw_tbl := List.mem_append_right _ (List.mem_of_getElem? (i := 406) (by decide +kernel))
theorem t_407 : (Jvm.Cond.methodLink "RoamingNet$HomeAgent" (52 : Nat) ({ cls := "RoamingNet$HomeAgent", name := "takeData", desc := "(II)V" } : Jvm.MethodName)) ∈ lw_tbl := List.mem_append_right _ (List.mem_of_getElem? (i := 407) (by decide +kernel))
theorem t_409 : (Jvm.Cond.instanceMethod ({ cls := "RoamingNet$HomeAgent", name := "takeData", desc := "(II)V" } : Jvm.MethodName)) ∈ lw_tbl := List.mem_append_right _ (List.mem_of_getElem? (i := 409) (by decide +kernel))
theorem t_410 : (Jvm.Cond.code ({ cls := "RoamingNet$HomeAgent", name := "takeData", desc := "(II)V" } : Jvm.MethodName) prog_4_method_6_code (3 : Nat) (Option.none : Option Jvm.ClassFile.FieldType)) ∈ lw_tbl := List.mem_append_right _ (List.mem_of_getElem? (i := 410) (by decide +kernel))
theorem t_411 : (Jvm.Cond.methodLink "RoamingNet$HomeAgent" (91 : Nat) ({ cls := "RoamingNet$HomeAgent", name := "isBound", desc := "(I)Z" } : Jvm.MethodName)) ∈ lw_tbl := List.mem_append_right _ (List.mem_of_getElem? (i := 411) (by decide +kernel))
theorem t_413 : (Jvm.Cond.instanceMethod ({ cls := "RoamingNet$HomeAgent", name := "isBound", desc := "(I)Z" } : Jvm.MethodName)) ∈ lw_tbl := List.mem_append_right _ (List.mem_of_getElem? (i := 413) (by decide +kernel))
theorem t_414 : (Jvm.Cond.code ({ cls := "RoamingNet$HomeAgent", name := "isBound", desc := "(I)Z" } : Jvm.MethodName) prog_4_method_2_code (2 : Nat) (Option.some Jvm.ClassFile.FieldType.boolean)) ∈ lw_tbl := List.mem_append_right _ (List.mem_of_getElem? (i := 414) (by decide +kernel))
theorem t_415 : (Jvm.Cond.methodLinkNest "RoamingNet" (191 : Nat) ({ cls := "RoamingNet$ForeignAgent", name := "receive", desc := "(LRoamingNet$Message;)V" } : Jvm.MethodName) "RoamingNet") ∈ lw_tbl := List.mem_append_right _ (List.mem_of_getElem? (i := 415) (by decide +kernel))
theorem t_417 : (Jvm.Cond.instanceMethod ({ cls := "RoamingNet$ForeignAgent", name := "receive", desc := "(LRoamingNet$Message;)V" } : Jvm.MethodName)) ∈ lw_tbl := List.mem_append_right _ (List.mem_of_getElem? (i := 417) (by decide +kernel))
theorem t_418 : (Jvm.Cond.code ({ cls := "RoamingNet$ForeignAgent", name := "receive", desc := "(LRoamingNet$Message;)V" } : Jvm.MethodName) prog_3_method_6_code (2 : Nat) (Option.none : Option Jvm.ClassFile.FieldType)) ∈ lw_tbl := List.mem_append_right _ (List.mem_of_getElem? (i := 418) (by decide +kernel))
theorem t_419 : (Jvm.Cond.methodLink "RoamingNet$ForeignAgent" (52 : Nat) ({ cls := "RoamingNet$ForeignAgent", name := "takeRequest", desc := "(LRoamingNet$Message;)V" } : Jvm.MethodName)) ∈ lw_tbl := List.mem_append_right _ (List.mem_of_getElem? (i := 419) (by decide +kernel))
theorem t_421 : (Jvm.Cond.instanceMethod ({ cls := "RoamingNet$ForeignAgent", name := "takeRequest", desc := "(LRoamingNet$Message;)V" } : Jvm.MethodName)) ∈ lw_tbl := List.mem_append_right _ (List.mem_of_getElem? (i := 421) (by decide +kernel))
theorem t_422 : (Jvm.Cond.code ({ cls := "RoamingNet$ForeignAgent", name := "takeRequest", desc := "(LRoamingNet$Message;)V" } : Jvm.MethodName) prog_3_method_7_code (4 : Nat) (Option.none : Option Jvm.ClassFile.FieldType)) ∈ lw_tbl := List.mem_append_right _ (List.mem_of_getElem? (i := 422) (by decide +kernel))
theorem t_423 : (Jvm.Cond.methodLink "RoamingNet$ForeignAgent" (44 : Nat) ({ cls := "RoamingNet$ForeignAgent", name := "takesPlace", desc := "(I)Z" } : Jvm.MethodName)) ∈ lw_tbl := List.mem_append_right _ (List.mem_of_getElem? (i := 423) (by decide +kernel))
theorem t_425 : (Jvm.Cond.instanceMethod ({ cls := "RoamingNet$ForeignAgent", name := "takesPlace", desc := "(I)Z" } : Jvm.MethodName)) ∈ lw_tbl := List.mem_append_right _ (List.mem_of_getElem? (i := 425) (by decide +kernel))
theorem t_426 : (Jvm.Cond.code ({ cls := "RoamingNet$ForeignAgent", name := "takesPlace", desc := "(I)Z" } : Jvm.MethodName) prog_3_method_4_code (2 : Nat) (Option.some Jvm.ClassFile.FieldType.boolean)) ∈ lw_tbl := List.mem_append_right _ (List.mem_of_getElem? (i := 426) (by decide +kernel))
theorem t_427 : (Jvm.Cond.methodLink "RoamingNet$ForeignAgent" (37 : Nat) ({ cls := "RoamingNet$ForeignAgent", name := "isVisited", desc := "(I)Z" } : Jvm.MethodName)) ∈ lw_tbl := List.mem_append_right _ (List.mem_of_getElem? (i := 427) (by decide +kernel))
theorem t_429 : (Jvm.Cond.instanceMethod ({ cls := "RoamingNet$ForeignAgent", name := "isVisited", desc := "(I)Z" } : Jvm.MethodName)) ∈ lw_tbl := List.mem_append_right _ (List.mem_of_getElem? (i := 429) (by decide +kernel))
theorem t_430 : (Jvm.Cond.code ({ cls := "RoamingNet$ForeignAgent", name := "isVisited", desc := "(I)Z" } : Jvm.MethodName) prog_3_method_2_code (2 : Nat) (Option.some Jvm.ClassFile.FieldType.boolean)) ∈ lw_tbl := List.mem_append_right _ (List.mem_of_getElem? (i := 430) (by decide +kernel))
theorem t_431 : (Jvm.Cond.methodLink "RoamingNet$ForeignAgent" (41 : Nat) ({ cls := "RoamingNet$ForeignAgent", name := "hasEntry", desc := "(I)Z" } : Jvm.MethodName)) ∈ lw_tbl := List.mem_append_right _ (List.mem_of_getElem? (i := 431) (by decide +kernel))
theorem t_433 : (Jvm.Cond.instanceMethod ({ cls := "RoamingNet$ForeignAgent", name := "hasEntry", desc := "(I)Z" } : Jvm.MethodName)) ∈ lw_tbl := List.mem_append_right _ (List.mem_of_getElem? (i := 433) (by decide +kernel))
theorem t_434 : (Jvm.Cond.code ({ cls := "RoamingNet$ForeignAgent", name := "hasEntry", desc := "(I)Z" } : Jvm.MethodName) prog_3_method_3_code (2 : Nat) (Option.some Jvm.ClassFile.FieldType.boolean)) ∈ lw_tbl := List.mem_append_right _ (List.mem_of_getElem? (i := 434) (by decide +kernel))
theorem t_435 : (Jvm.Cond.methodLink "RoamingNet$ForeignAgent" (72 : Nat) ({ cls := "RoamingNet$ForeignAgent", name := "isCrowded", desc := "()Z" } : Jvm.MethodName)) ∈ lw_tbl := List.mem_append_right _ (List.mem_of_getElem? (i := 435) (by decide +kernel))
theorem t_437 : (Jvm.Cond.instanceMethod ({ cls := "RoamingNet$ForeignAgent", name := "isCrowded", desc := "()Z" } : Jvm.MethodName)) ∈ lw_tbl := List.mem_append_right _ (List.mem_of_getElem? (i := 437) (by decide +kernel))
theorem t_438 : (Jvm.Cond.code ({ cls := "RoamingNet$ForeignAgent", name := "isCrowded", desc := "()Z" } : Jvm.MethodName) prog_3_method_5_code (3 : Nat) (Option.some Jvm.ClassFile.FieldType.boolean)) ∈ lw_tbl := List.mem_append_right _ (List.mem_of_getElem? (i := 438) (by decide +kernel))
theorem t_439 : (Jvm.Cond.methodLinkNest "RoamingNet$ForeignAgent" (76 : Nat) ({ cls := "RoamingNet$Wire", name := "sendInNetwork", desc := "(IIII)LRoamingNet$Message;" } : Jvm.MethodName) "RoamingNet") ∈ lw_tbl := List.mem_append_right _ (List.mem_of_getElem? (i := 439) (by decide +kernel))
theorem t_440 : (Jvm.Cond.methodLinkNest "RoamingNet$ForeignAgent" (83 : Nat) ({ cls := "RoamingNet$Wire", name := "sendOn", desc := "(LRoamingNet$Message;II)V" } : Jvm.MethodName) "RoamingNet") ∈ lw_tbl := List.mem_append_right _ (List.mem_of_getElem? (i := 440) (by decide +kernel))
theorem t_442 : (Jvm.Cond.instanceMethod ({ cls := "RoamingNet$Wire", name := "sendOn", desc := "(LRoamingNet$Message;II)V" } : Jvm.MethodName)) ∈ lw_tbl := List.mem_append_right _ (List.mem_of_getElem? (i := 442) (by decide +kernel))
theorem t_443 : (Jvm.Cond.code ({ cls := "RoamingNet$Wire", name := "sendOn", desc := "(LRoamingNet$Message;II)V" } : Jvm.MethodName) prog_7_method_8_code (5 : Nat) (Option.none : Option Jvm.ClassFile.FieldType)) ∈ lw_tbl := List.mem_append_right _ (List.mem_of_getElem? (i := 443) (by decide +kernel))
theorem t_444 : (Jvm.Cond.methodLinkNest "RoamingNet$Wire" (41 : Nat) ({ cls := "RoamingNet$Message", name := "copyFrom", desc := "(LRoamingNet$Message;)V" } : Jvm.MethodName) "RoamingNet") ∈ lw_tbl := List.mem_append_right _ (List.mem_of_getElem? (i := 444) (by decide +kernel))
theorem t_445 : (Jvm.Cond.methodLink "RoamingNet$ForeignAgent" (56 : Nat) ({ cls := "RoamingNet$ForeignAgent", name := "takeReply", desc := "(LRoamingNet$Message;)V" } : Jvm.MethodName)) ∈ lw_tbl := List.mem_append_right _ (List.mem_of_getElem? (i := 445) (by decide +kernel))
theorem t_447 : (Jvm.Cond.instanceMethod ({ cls := "RoamingNet$ForeignAgent", name := "takeReply", desc := "(LRoamingNet$Message;)V" } : Jvm.MethodName)) ∈ lw_tbl := List.mem_append_right _ (List.mem_of_getElem? (i := 447) (by decide +kernel))
theorem t_448 : (Jvm.Cond.code ({ cls := "RoamingNet$ForeignAgent", name := "takeReply", desc := "(LRoamingNet$Message;)V" } : Jvm.MethodName) prog_3_method_8_code (3 : Nat) (Option.none : Option Jvm.ClassFile.FieldType)) ∈ lw_tbl := List.mem_append_right _ (List.mem_of_getElem? (i := 448) (by decide +kernel))
theorem t_449 : (Jvm.Cond.methodLink "RoamingNet$ForeignAgent" (65 : Nat) ({ cls := "RoamingNet$ForeignAgent", name := "takeTunnel", desc := "(II)V" } : Jvm.MethodName)) ∈ lw_tbl := List.mem_append_right _ (List.mem_of_getElem? (i := 449) (by decide +kernel))
theorem t_451 : (Jvm.Cond.instanceMethod ({ cls := "RoamingNet$ForeignAgent", name := "takeTunnel", desc := "(II)V" } : Jvm.MethodName)) ∈ lw_tbl := List.mem_append_right _ (List.mem_of_getElem? (i := 451) (by decide +kernel))
theorem t_452 : (Jvm.Cond.code ({ cls := "RoamingNet$ForeignAgent", name := "takeTunnel", desc := "(II)V" } : Jvm.MethodName) prog_3_method_9_code (3 : Nat) (Option.none : Option Jvm.ClassFile.FieldType)) ∈ lw_tbl := List.mem_append_right _ (List.mem_of_getElem? (i := 452) (by decide +kernel))
theorem t_461 : (Jvm.Cond.methodLinkNest "RoamingNet" (105 : Nat) ({ cls := "RoamingNet$Wire", name := "isFull", desc := "()Z" } : Jvm.MethodName) "RoamingNet") ∈ lw_tbl := List.mem_append_right _ (List.mem_of_getElem? (i := 461) (by decide +kernel))
theorem t_462 : (Jvm.Cond.methodLinkNest "RoamingNet" (109 : Nat) ({ cls := "RoamingNet$Wire", name := "nextRow", desc := "()LRoamingNet$Message;" } : Jvm.MethodName) "RoamingNet") ∈ lw_tbl := List.mem_append_right _ (List.mem_of_getElem? (i := 462) (by decide +kernel))
theorem t_467 : (Jvm.Cond.methodLink "RoamingNet" (113 : Nat) ({ cls := "RoamingNet", name := "isAgent", desc := "(I)Z" } : Jvm.MethodName)) ∈ lw_tbl := List.mem_append_right _ (List.mem_of_getElem? (i := 467) (by decide +kernel))
theorem t_468 : (Jvm.Cond.static ({ cls := "RoamingNet", name := "isAgent", desc := "(I)Z" } : Jvm.MethodName)) ∈ lw_tbl := List.mem_append_right _ (List.mem_of_getElem? (i := 468) (by decide +kernel))
theorem t_469 : (Jvm.Cond.code ({ cls := "RoamingNet", name := "isAgent", desc := "(I)Z" } : Jvm.MethodName) prog_1_method_23_code (1 : Nat) (Option.some Jvm.ClassFile.FieldType.boolean)) ∈ lw_tbl := List.mem_append_right _ (List.mem_of_getElem? (i := 469) (by decide +kernel))
theorem t_470 : (Jvm.Cond.methodLinkNest "RoamingNet" (116 : Nat) ({ cls := "RoamingNet$Wire", name := "sendTo", desc := "(IIII)LRoamingNet$Message;" } : Jvm.MethodName) "RoamingNet") ∈ lw_tbl := List.mem_append_right _ (List.mem_of_getElem? (i := 470) (by decide +kernel))
theorem t_479 : (Jvm.Cond.methodLinkNest "RoamingNet" (132 : Nat) ({ cls := "RoamingNet$Message", name := "summary", desc := "()I" } : Jvm.MethodName) "RoamingNet") ∈ lw_tbl := List.mem_append_right _ (List.mem_of_getElem? (i := 479) (by decide +kernel))
theorem t_481 : (Jvm.Cond.instanceMethod ({ cls := "RoamingNet$Message", name := "summary", desc := "()I" } : Jvm.MethodName)) ∈ lw_tbl := List.mem_append_right _ (List.mem_of_getElem? (i := 481) (by decide +kernel))
theorem t_482 : (Jvm.Cond.code ({ cls := "RoamingNet$Message", name := "summary", desc := "()I" } : Jvm.MethodName) prog_5_method_4_code (1 : Nat) (Option.some Jvm.ClassFile.FieldType.int)) ∈ lw_tbl := List.mem_append_right _ (List.mem_of_getElem? (i := 482) (by decide +kernel))
theorem t_483 : (Jvm.Cond.constant "RoamingNet$Message" (39 : Nat) (1000000 : Int32)) ∈ lw_tbl := List.mem_append_right _ (List.mem_of_getElem? (i := 483) (by decide +kernel))
theorem t_484 : (Jvm.Cond.constant "RoamingNet$Message" (40 : Nat) (100000 : Int32)) ∈ lw_tbl := List.mem_append_right _ (List.mem_of_getElem? (i := 484) (by decide +kernel))
theorem t_501 : (Jvm.Cond.methodLinkNest "RoamingNet" (142 : Nat) ({ cls := "RoamingNet$HomeAgent", name := "isBound", desc := "(I)Z" } : Jvm.MethodName) "RoamingNet") ∈ lw_tbl := List.mem_append_right _ (List.mem_of_getElem? (i := 501) (by decide +kernel))
theorem t_506 : (Jvm.Cond.methodLinkNest "RoamingNet" (153 : Nat) ({ cls := "RoamingNet$ForeignAgent", name := "isVisited", desc := "(I)Z" } : Jvm.MethodName) "RoamingNet") ∈ lw_tbl := List.mem_append_right _ (List.mem_of_getElem? (i := 506) (by decide +kernel))
theorem t_550 : (Jvm.Cond.laysFinal "RoamingNetModel" "RoamingNetModel" "life" "I") ∈ lw_tbl := List.mem_append_right _ (List.mem_of_getElem? (i := 550) (by decide +kernel))
theorem t_552 : (Jvm.Cond.laysFinal "RoamingNetModel" "RoamingNetModel" "limit" "I") ∈ lw_tbl := List.mem_append_right _ (List.mem_of_getElem? (i := 552) (by decide +kernel))
theorem t_554 : (Jvm.Cond.laysFinal "RoamingNetModel" "RoamingNetModel" "places" "I") ∈ lw_tbl := List.mem_append_right _ (List.mem_of_getElem? (i := 554) (by decide +kernel))
theorem t_556 : (Jvm.Cond.lays "RoamingNetModel" "RoamingNetModel" "clock" "I") ∈ lw_tbl := List.mem_append_right _ (List.mem_of_getElem? (i := 556) (by decide +kernel))
theorem t_558 : (Jvm.Cond.lays "RoamingNetModel" "RoamingNetModel" "many" "I") ∈ lw_tbl := List.mem_append_right _ (List.mem_of_getElem? (i := 558) (by decide +kernel))
theorem t_560 : (Jvm.Cond.laysFinal "RoamingNetModel" "RoamingNetModel" "rows" "[I") ∈ lw_tbl := List.mem_append_right _ (List.mem_of_getElem? (i := 560) (by decide +kernel))
theorem t_562 : (Jvm.Cond.laysFinal "RoamingNetModel" "RoamingNetModel" "row" "[I") ∈ lw_tbl := List.mem_append_right _ (List.mem_of_getElem? (i := 562) (by decide +kernel))
theorem t_564 : (Jvm.Cond.laysFinal "RoamingNetModel" "RoamingNetModel" "place" "[I") ∈ lw_tbl := List.mem_append_right _ (List.mem_of_getElem? (i := 564) (by decide +kernel))
theorem t_566 : (Jvm.Cond.laysFinal "RoamingNetModel" "RoamingNetModel" "secret" "[I") ∈ lw_tbl := List.mem_append_right _ (List.mem_of_getElem? (i := 566) (by decide +kernel))
theorem t_568 : (Jvm.Cond.laysFinal "RoamingNetModel" "RoamingNetModel" "lastId" "[I") ∈ lw_tbl := List.mem_append_right _ (List.mem_of_getElem? (i := 568) (by decide +kernel))
theorem t_570 : (Jvm.Cond.laysFinal "RoamingNetModel" "RoamingNetModel" "with" "[I") ∈ lw_tbl := List.mem_append_right _ (List.mem_of_getElem? (i := 570) (by decide +kernel))
theorem t_572 : (Jvm.Cond.laysFinal "RoamingNetModel" "RoamingNetModel" "until" "[I") ∈ lw_tbl := List.mem_append_right _ (List.mem_of_getElem? (i := 572) (by decide +kernel))
theorem t_574 : (Jvm.Cond.laysFinal "RoamingNetModel" "RoamingNetModel" "heard" "[I") ∈ lw_tbl := List.mem_append_right _ (List.mem_of_getElem? (i := 574) (by decide +kernel))
theorem t_576 : (Jvm.Cond.laysFinal "RoamingNetModel" "RoamingNetModel" "heardUntil" "[I") ∈ lw_tbl := List.mem_append_right _ (List.mem_of_getElem? (i := 576) (by decide +kernel))
theorem t_578 : (Jvm.Cond.laysFinal "RoamingNetModel" "RoamingNetModel" "openId" "[I") ∈ lw_tbl := List.mem_append_right _ (List.mem_of_getElem? (i := 578) (by decide +kernel))
theorem t_580 : (Jvm.Cond.laysFinal "RoamingNetModel" "RoamingNetModel" "openWith" "[I") ∈ lw_tbl := List.mem_append_right _ (List.mem_of_getElem? (i := 580) (by decide +kernel))
theorem t_582 : (Jvm.Cond.laysFinal "RoamingNetModel" "RoamingNetModel" "openSince" "[I") ∈ lw_tbl := List.mem_append_right _ (List.mem_of_getElem? (i := 582) (by decide +kernel))
theorem t_584 : (Jvm.Cond.laysFinal "RoamingNetModel" "RoamingNetModel" "received" "[I") ∈ lw_tbl := List.mem_append_right _ (List.mem_of_getElem? (i := 584) (by decide +kernel))
theorem t_586 : (Jvm.Cond.laysFinal "RoamingNetModel" "RoamingNetModel" "homeSecret" "[I") ∈ lw_tbl := List.mem_append_right _ (List.mem_of_getElem? (i := 586) (by decide +kernel))
theorem t_588 : (Jvm.Cond.laysFinal "RoamingNetModel" "RoamingNetModel" "accepted" "[I") ∈ lw_tbl := List.mem_append_right _ (List.mem_of_getElem? (i := 588) (by decide +kernel))
theorem t_590 : (Jvm.Cond.laysFinal "RoamingNetModel" "RoamingNetModel" "careOf" "[I") ∈ lw_tbl := List.mem_append_right _ (List.mem_of_getElem? (i := 590) (by decide +kernel))
theorem t_592 : (Jvm.Cond.laysFinal "RoamingNetModel" "RoamingNetModel" "boundUntil" "[I") ∈ lw_tbl := List.mem_append_right _ (List.mem_of_getElem? (i := 592) (by decide +kernel))
theorem t_594 : (Jvm.Cond.laysFinal "RoamingNetModel" "RoamingNetModel" "visitUntil" "[I") ∈ lw_tbl := List.mem_append_right _ (List.mem_of_getElem? (i := 594) (by decide +kernel))
theorem t_596 : (Jvm.Cond.laysFinal "RoamingNetModel" "RoamingNetModel" "entryId" "[I") ∈ lw_tbl := List.mem_append_right _ (List.mem_of_getElem? (i := 596) (by decide +kernel))
theorem t_598 : (Jvm.Cond.laysFinal "RoamingNetModel" "RoamingNetModel" "entryUntil" "[I") ∈ lw_tbl := List.mem_append_right _ (List.mem_of_getElem? (i := 598) (by decide +kernel))
theorem t_600 : (Jvm.Cond.laysFinal "RoamingNetModel" "RoamingNetModel" "said" "[I") ∈ lw_tbl := List.mem_append_right _ (List.mem_of_getElem? (i := 600) (by decide +kernel))
theorem t_602 : (Jvm.Cond.laysFinal "RoamingNetModel" "RoamingNetModel" "sent" "[I") ∈ lw_tbl := List.mem_append_right _ (List.mem_of_getElem? (i := 602) (by decide +kernel))
theorem t_604 : (Jvm.Cond.laysFinal "RoamingNetModel" "RoamingNetModel" "acked" "[I") ∈ lw_tbl := List.mem_append_right _ (List.mem_of_getElem? (i := 604) (by decide +kernel))
theorem t_606 : (Jvm.Cond.laysFinal "RoamingNetModel" "RoamingNetModel" "last" "[I") ∈ lw_tbl := List.mem_append_right _ (List.mem_of_getElem? (i := 606) (by decide +kernel))
theorem w_Wire_sendTo : Cond.code y_Wire_sendTo b_Wire_sendTo 6 (some (.object "RoamingNet$Message")) ∈ rx_W := rx_in t_296 rfl
theorem z_Wire_sendTo : Cond.instanceMethod y_Wire_sendTo ∈ rx_W := rx_in t_295 rfl
theorem s_Wire_sendTo : Cond.selects y_Wire_sendTo.cls y_Wire_sendTo y_Wire_sendTo ∈ rx_W := rx_in (List.mem_append_left _ (List.mem_map.mpr ⟨(y_Wire_sendTo, 3), by decide +kernel, rfl⟩)) rfl
theorem w_Corr_pump : Cond.code y_Corr_pump b_Corr_pump 2 none ∈ rx_W := rx_in t_338 rfl
theorem z_Corr_pump : Cond.instanceMethod y_Corr_pump ∈ rx_W := rx_in t_337 rfl
theorem s_Corr_pump : Cond.selects y_Corr_pump.cls y_Corr_pump y_Corr_pump ∈ rx_W := rx_in (List.mem_append_left _ (List.mem_map.mpr ⟨(y_Corr_pump, 5), by decide +kernel, rfl⟩)) rfl
theorem w_Fa_isVisited : Cond.code y_Fa_isVisited b_Fa_isVisited 2 (some .boolean) ∈ rx_W := rx_in t_430 rfl
theorem z_Fa_isVisited : Cond.instanceMethod y_Fa_isVisited ∈ rx_W := rx_in t_429 rfl
theorem s_Fa_isVisited : Cond.selects y_Fa_isVisited.cls y_Fa_isVisited y_Fa_isVisited ∈ rx_W := rx_in (List.mem_append_left _ (List.mem_map.mpr ⟨(y_Fa_isVisited, 6), by decide +kernel, rfl⟩)) rfl
theorem w_Fa_hasEntry : Cond.code y_Fa_hasEntry b_Fa_hasEntry 2 (some .boolean) ∈ rx_W := rx_in t_434 rfl
theorem z_Fa_hasEntry : Cond.instanceMethod y_Fa_hasEntry ∈ rx_W := rx_in t_433 rfl
theorem s_Fa_hasEntry : Cond.selects y_Fa_hasEntry.cls y_Fa_hasEntry y_Fa_hasEntry ∈ rx_W := rx_in (List.mem_append_left _ (List.mem_map.mpr ⟨(y_Fa_hasEntry, 6), by decide +kernel, rfl⟩)) rfl
theorem w_Fa_takesPlace : Cond.code y_Fa_takesPlace b_Fa_takesPlace 2 (some .boolean) ∈ rx_W := rx_in t_426 rfl
theorem z_Fa_takesPlace : Cond.instanceMethod y_Fa_takesPlace ∈ rx_W := rx_in t_425 rfl
theorem s_Fa_takesPlace : Cond.selects y_Fa_takesPlace.cls y_Fa_takesPlace y_Fa_takesPlace ∈ rx_W := rx_in (List.mem_append_left _ (List.mem_map.mpr ⟨(y_Fa_takesPlace, 6), by decide +kernel, rfl⟩)) rfl
theorem w_Fa_takeRequest : Cond.code y_Fa_takeRequest b_Fa_takeRequest 4 none ∈ rx_W := rx_in t_422 rfl
theorem z_Fa_takeRequest : Cond.instanceMethod y_Fa_takeRequest ∈ rx_W := rx_in t_421 rfl
theorem s_Fa_takeRequest : Cond.selects y_Fa_takeRequest.cls y_Fa_takeRequest y_Fa_takeRequest ∈ rx_W := rx_in (List.mem_append_left _ (List.mem_map.mpr ⟨(y_Fa_takeRequest, 6), by decide +kernel, rfl⟩)) rfl
theorem w_Fa_takeReply : Cond.code y_Fa_takeReply b_Fa_takeReply 3 none ∈ rx_W := rx_in t_448 rfl
theorem z_Fa_takeReply : Cond.instanceMethod y_Fa_takeReply ∈ rx_W := rx_in t_447 rfl
theorem s_Fa_takeReply : Cond.selects y_Fa_takeReply.cls y_Fa_takeReply y_Fa_takeReply ∈ rx_W := rx_in (List.mem_append_left _ (List.mem_map.mpr ⟨(y_Fa_takeReply, 6), by decide +kernel, rfl⟩)) rfl
theorem w_Fa_takeTunnel : Cond.code y_Fa_takeTunnel b_Fa_takeTunnel 3 none ∈ rx_W := rx_in t_452 rfl
theorem z_Fa_takeTunnel : Cond.instanceMethod y_Fa_takeTunnel ∈ rx_W := rx_in t_451 rfl
theorem s_Fa_takeTunnel : Cond.selects y_Fa_takeTunnel.cls y_Fa_takeTunnel y_Fa_takeTunnel ∈ rx_W := rx_in (List.mem_append_left _ (List.mem_map.mpr ⟨(y_Fa_takeTunnel, 6), by decide +kernel, rfl⟩)) rfl
theorem w_Fa_isCrowded : Cond.code y_Fa_isCrowded b_Fa_isCrowded 3 (some .boolean) ∈ rx_W := rx_in t_438 rfl
theorem z_Fa_isCrowded : Cond.instanceMethod y_Fa_isCrowded ∈ rx_W := rx_in t_437 rfl
theorem s_Fa_isCrowded : Cond.selects y_Fa_isCrowded.cls y_Fa_isCrowded y_Fa_isCrowded ∈ rx_W := rx_in (List.mem_append_left _ (List.mem_map.mpr ⟨(y_Fa_isCrowded, 6), by decide +kernel, rfl⟩)) rfl
theorem w_Wire_sendInNetwork : Cond.code y_Wire_sendInNetwork b_Wire_sendInNetwork 6 (some (.object "RoamingNet$Message")) ∈ rx_W := rx_in t_292 rfl
theorem z_Wire_sendInNetwork : Cond.instanceMethod y_Wire_sendInNetwork ∈ rx_W := rx_in t_291 rfl
theorem s_Wire_sendInNetwork : Cond.selects y_Wire_sendInNetwork.cls y_Wire_sendInNetwork y_Wire_sendInNetwork ∈ rx_W := rx_in (List.mem_append_left _ (List.mem_map.mpr ⟨(y_Wire_sendInNetwork, 3), by decide +kernel, rfl⟩)) rfl
theorem w_Wire_sendOn : Cond.code y_Wire_sendOn b_Wire_sendOn 5 none ∈ rx_W := rx_in t_443 rfl
theorem z_Wire_sendOn : Cond.instanceMethod y_Wire_sendOn ∈ rx_W := rx_in t_442 rfl
theorem s_Wire_sendOn : Cond.selects y_Wire_sendOn.cls y_Wire_sendOn y_Wire_sendOn ∈ rx_W := rx_in (List.mem_append_left _ (List.mem_map.mpr ⟨(y_Wire_sendOn, 3), by decide +kernel, rfl⟩)) rfl
theorem w_Home_takeRequest : Cond.code y_Home_takeRequest b_Home_takeRequest 6 none ∈ rx_W := rx_in t_395 rfl
theorem z_Home_takeRequest : Cond.instanceMethod y_Home_takeRequest ∈ rx_W := rx_in t_394 rfl
theorem s_Home_takeRequest : Cond.selects y_Home_takeRequest.cls y_Home_takeRequest y_Home_takeRequest ∈ rx_W := rx_in (List.mem_append_left _ (List.mem_map.mpr ⟨(y_Home_takeRequest, 6), by decide +kernel, rfl⟩)) rfl
theorem w_Home_takeData : Cond.code y_Home_takeData b_Home_takeData 3 none ∈ rx_W := rx_in t_410 rfl
theorem z_Home_takeData : Cond.instanceMethod y_Home_takeData ∈ rx_W := rx_in t_409 rfl
theorem s_Home_takeData : Cond.selects y_Home_takeData.cls y_Home_takeData y_Home_takeData ∈ rx_W := rx_in (List.mem_append_left _ (List.mem_map.mpr ⟨(y_Home_takeData, 6), by decide +kernel, rfl⟩)) rfl
theorem w_Home_judge : Cond.code y_Home_judge b_Home_judge 3 (some .int) ∈ rx_W := rx_in t_399 rfl
theorem z_Home_judge : Cond.instanceMethod y_Home_judge ∈ rx_W := rx_in t_398 rfl
theorem s_Home_judge : Cond.selects y_Home_judge.cls y_Home_judge y_Home_judge ∈ rx_W := rx_in (List.mem_append_left _ (List.mem_map.mpr ⟨(y_Home_judge, 6), by decide +kernel, rfl⟩)) rfl
theorem w_Msg_replySeal : Cond.code y_Msg_replySeal b_Msg_replySeal 3 (some .int) ∈ rx_W := rx_in t_378 rfl
theorem z_Msg_replySeal : Cond.instanceMethod y_Msg_replySeal ∈ rx_W := rx_in t_377 rfl
theorem s_Msg_replySeal : Cond.selects y_Msg_replySeal.cls y_Msg_replySeal y_Msg_replySeal ∈ rx_W := rx_in (List.mem_append_left _ (List.mem_map.mpr ⟨(y_Msg_replySeal, 9), by decide +kernel, rfl⟩)) rfl
theorem w_Msg_requestSeal : Cond.code y_Msg_requestSeal b_Msg_requestSeal 3 (some .int) ∈ rx_W := rx_in t_321 rfl
theorem z_Msg_requestSeal : Cond.instanceMethod y_Msg_requestSeal ∈ rx_W := rx_in t_320 rfl
theorem s_Msg_requestSeal : Cond.selects y_Msg_requestSeal.cls y_Msg_requestSeal y_Msg_requestSeal ∈ rx_W := rx_in (List.mem_append_left _ (List.mem_map.mpr ⟨(y_Msg_requestSeal, 9), by decide +kernel, rfl⟩)) rfl
theorem w_Home_isBound : Cond.code y_Home_isBound b_Home_isBound 2 (some .boolean) ∈ rx_W := rx_in t_414 rfl
theorem z_Home_isBound : Cond.instanceMethod y_Home_isBound ∈ rx_W := rx_in t_413 rfl
theorem s_Home_isBound : Cond.selects y_Home_isBound.cls y_Home_isBound y_Home_isBound ∈ rx_W := rx_in (List.mem_append_left _ (List.mem_map.mpr ⟨(y_Home_isBound, 6), by decide +kernel, rfl⟩)) rfl
theorem w_Mob_takeAdvert : Cond.code y_Mob_takeAdvert b_Mob_takeAdvert 3 none ∈ rx_W := rx_in t_366 rfl
theorem z_Mob_takeAdvert : Cond.instanceMethod y_Mob_takeAdvert ∈ rx_W := rx_in t_365 rfl
theorem s_Mob_takeAdvert : Cond.selects y_Mob_takeAdvert.cls y_Mob_takeAdvert y_Mob_takeAdvert ∈ rx_W := rx_in (List.mem_append_left _ (List.mem_map.mpr ⟨(y_Mob_takeAdvert, 14), by decide +kernel, rfl⟩)) rfl
theorem w_Mob_takeReply : Cond.code y_Mob_takeReply b_Mob_takeReply 2 none ∈ rx_W := rx_in t_374 rfl
theorem z_Mob_takeReply : Cond.instanceMethod y_Mob_takeReply ∈ rx_W := rx_in t_373 rfl
theorem s_Mob_takeReply : Cond.selects y_Mob_takeReply.cls y_Mob_takeReply y_Mob_takeReply ∈ rx_W := rx_in (List.mem_append_left _ (List.mem_map.mpr ⟨(y_Mob_takeReply, 14), by decide +kernel, rfl⟩)) rfl
theorem w_Mob_takeData : Cond.code y_Mob_takeData b_Mob_takeData 2 none ∈ rx_W := rx_in t_382 rfl
theorem z_Mob_takeData : Cond.instanceMethod y_Mob_takeData ∈ rx_W := rx_in t_381 rfl
theorem s_Mob_takeData : Cond.selects y_Mob_takeData.cls y_Mob_takeData y_Mob_takeData ∈ rx_W := rx_in (List.mem_append_left _ (List.mem_map.mpr ⟨(y_Mob_takeData, 14), by decide +kernel, rfl⟩)) rfl
theorem w_Mob_endsSoon : Cond.code y_Mob_endsSoon b_Mob_endsSoon 1 (some .boolean) ∈ rx_W := rx_in t_370 rfl
theorem z_Mob_endsSoon : Cond.instanceMethod y_Mob_endsSoon ∈ rx_W := rx_in t_369 rfl
theorem s_Mob_endsSoon : Cond.selects y_Mob_endsSoon.cls y_Mob_endsSoon y_Mob_endsSoon ∈ rx_W := rx_in (List.mem_append_left _ (List.mem_map.mpr ⟨(y_Mob_endsSoon, 14), by decide +kernel, rfl⟩)) rfl
theorem w_Mob_registerWith : Cond.code y_Mob_registerWith b_Mob_registerWith 3 none ∈ rx_W := rx_in t_316 rfl
theorem z_Mob_registerWith : Cond.instanceMethod y_Mob_registerWith ∈ rx_W := rx_in t_315 rfl
theorem s_Mob_registerWith : Cond.selects y_Mob_registerWith.cls y_Mob_registerWith y_Mob_registerWith ∈ rx_W := rx_in (List.mem_append_left _ (List.mem_map.mpr ⟨(y_Mob_registerWith, 14), by decide +kernel, rfl⟩)) rfl
theorem w_Msg_stir : Cond.code y_Msg_stir b_Msg_stir 3 (some .int) ∈ rx_W := rx_in t_324 rfl
theorem z_Msg_stir : Cond.static y_Msg_stir ∈ rx_W := rx_in t_323 rfl
theorem w_Net_handOver : Cond.code y_Net_handOver b_Net_handOver 2 none ∈ rx_W := rx_in t_358 rfl
theorem z_Net_handOver : Cond.instanceMethod y_Net_handOver ∈ rx_W := rx_in t_357 rfl
theorem s_Net_handOver : Cond.selects y_Net_handOver.cls y_Net_handOver y_Net_handOver ∈ rx_W := rx_in (List.mem_append_left _ (List.mem_map.mpr ⟨(y_Net_handOver, 6), by decide +kernel, rfl⟩)) rfl
theorem w_Wire_isFull : Cond.code y_Wire_isFull b_Wire_isFull 1 (some .boolean) ∈ rx_W := rx_in t_304 rfl
theorem z_Wire_isFull : Cond.instanceMethod y_Wire_isFull ∈ rx_W := rx_in t_303 rfl
theorem s_Wire_isFull : Cond.selects y_Wire_isFull.cls y_Wire_isFull y_Wire_isFull ∈ rx_W := rx_in (List.mem_append_left _ (List.mem_map.mpr ⟨(y_Wire_isFull, 3), by decide +kernel, rfl⟩)) rfl
theorem w_Wire_nextRow : Cond.code y_Wire_nextRow b_Wire_nextRow 1 (some (.object "RoamingNet$Message")) ∈ rx_W := rx_in t_300 rfl
theorem z_Wire_nextRow : Cond.instanceMethod y_Wire_nextRow ∈ rx_W := rx_in t_299 rfl
theorem s_Wire_nextRow : Cond.selects y_Wire_nextRow.cls y_Wire_nextRow y_Wire_nextRow ∈ rx_W := rx_in (List.mem_append_left _ (List.mem_map.mpr ⟨(y_Wire_nextRow, 3), by decide +kernel, rfl⟩)) rfl
theorem w_Net_isWithin : Cond.code y_Net_isWithin b_Net_isWithin 3 (some .boolean) ∈ rx_W := rx_in t_20 rfl
theorem z_Net_isWithin : Cond.static y_Net_isWithin ∈ rx_W := rx_in t_19 rfl
theorem w_Net_isAgent : Cond.code y_Net_isAgent b_Net_isAgent 1 (some .boolean) ∈ rx_W := rx_in t_469 rfl
theorem z_Net_isAgent : Cond.static y_Net_isAgent ∈ rx_W := rx_in t_468 rfl
theorem w_Msg_summary : Cond.code y_Msg_summary b_Msg_summary 1 (some .int) ∈ rx_W := rx_in t_482 rfl
theorem z_Msg_summary : Cond.instanceMethod y_Msg_summary ∈ rx_W := rx_in t_481 rfl
theorem s_Msg_summary : Cond.selects y_Msg_summary.cls y_Msg_summary y_Msg_summary ∈ rx_W := rx_in (List.mem_append_left _ (List.mem_map.mpr ⟨(y_Msg_summary, 9), by decide +kernel, rfl⟩)) rfl
theorem w_Net_advertise : Cond.code y_Net_advertise b_Net_advertise 3 none ∈ rx_W := rx_in t_288 rfl
theorem z_Net_advertise : Cond.instanceMethod y_Net_advertise ∈ rx_W := rx_in t_287 rfl
theorem s_Net_advertise : Cond.selects y_Net_advertise.cls y_Net_advertise y_Net_advertise ∈ rx_W := rx_in (List.mem_append_left _ (List.mem_map.mpr ⟨(y_Net_advertise, 6), by decide +kernel, rfl⟩)) rfl
theorem w_Mob_notice : Cond.code y_Mob_notice b_Mob_notice 1 none ∈ rx_W := rx_in t_312 rfl
theorem z_Mob_notice : Cond.instanceMethod y_Mob_notice ∈ rx_W := rx_in t_311 rfl
theorem s_Mob_notice : Cond.selects y_Mob_notice.cls y_Mob_notice y_Mob_notice ∈ rx_W := rx_in (List.mem_append_left _ (List.mem_map.mpr ⟨(y_Mob_notice, 14), by decide +kernel, rfl⟩)) rfl
theorem w_Corr_resendIfDue : Cond.code y_Corr_resendIfDue b_Corr_resendIfDue 3 none ∈ rx_W := rx_in t_329 rfl
theorem z_Corr_resendIfDue : Cond.instanceMethod y_Corr_resendIfDue ∈ rx_W := rx_in t_328 rfl
theorem s_Corr_resendIfDue : Cond.selects y_Corr_resendIfDue.cls y_Corr_resendIfDue y_Corr_resendIfDue ∈ rx_W := rx_in (List.mem_append_left _ (List.mem_map.mpr ⟨(y_Corr_resendIfDue, 5), by decide +kernel, rfl⟩)) rfl
theorem w_Mob_receive : Cond.code y_Mob_receive b_Mob_receive 2 none ∈ rx_W := rx_in t_362 rfl
theorem z_Mob_receive : Cond.instanceMethod y_Mob_receive ∈ rx_W := rx_in t_361 rfl
theorem s_Mob_receive : Cond.selects y_Mob_receive.cls y_Mob_receive y_Mob_receive ∈ rx_W := rx_in (List.mem_append_left _ (List.mem_map.mpr ⟨(y_Mob_receive, 14), by decide +kernel, rfl⟩)) rfl
theorem w_Corr_receive : Cond.code y_Corr_receive b_Corr_receive 3 none ∈ rx_W := rx_in t_386 rfl
theorem z_Corr_receive : Cond.instanceMethod y_Corr_receive ∈ rx_W := rx_in t_385 rfl
theorem s_Corr_receive : Cond.selects y_Corr_receive.cls y_Corr_receive y_Corr_receive ∈ rx_W := rx_in (List.mem_append_left _ (List.mem_map.mpr ⟨(y_Corr_receive, 5), by decide +kernel, rfl⟩)) rfl
theorem w_Home_receive : Cond.code y_Home_receive b_Home_receive 2 none ∈ rx_W := rx_in t_391 rfl
theorem z_Home_receive : Cond.instanceMethod y_Home_receive ∈ rx_W := rx_in t_390 rfl
theorem s_Home_receive : Cond.selects y_Home_receive.cls y_Home_receive y_Home_receive ∈ rx_W := rx_in (List.mem_append_left _ (List.mem_map.mpr ⟨(y_Home_receive, 6), by decide +kernel, rfl⟩)) rfl
theorem w_Fa_receive : Cond.code y_Fa_receive b_Fa_receive 2 none ∈ rx_W := rx_in t_418 rfl
theorem z_Fa_receive : Cond.instanceMethod y_Fa_receive ∈ rx_W := rx_in t_417 rfl
theorem s_Fa_receive : Cond.selects y_Fa_receive.cls y_Fa_receive y_Fa_receive ∈ rx_W := rx_in (List.mem_append_left _ (List.mem_map.mpr ⟨(y_Fa_receive, 6), by decide +kernel, rfl⟩)) rfl
theorem w_Net_isMobile : Cond.code y_Net_isMobile b_Net_isMobile 1 (some .boolean) ∈ rx_W := rx_in t_272 rfl
theorem z_Net_isMobile : Cond.static y_Net_isMobile ∈ rx_W := rx_in t_271 rfl
theorem w_Net_passOneTick : Cond.code y_Net_passOneTick b_Net_passOneTick 2 none ∈ rx_W := rx_in t_284 rfl
theorem z_Net_passOneTick : Cond.instanceMethod y_Net_passOneTick ∈ rx_W := rx_in t_283 rfl
theorem s_Net_passOneTick : Cond.selects y_Net_passOneTick.cls y_Net_passOneTick y_Net_passOneTick ∈ rx_W := rx_in (List.mem_append_left _ (List.mem_map.mpr ⟨(y_Net_passOneTick, 6), by decide +kernel, rfl⟩)) rfl
theorem w_Wire_holds : Cond.code y_Wire_holds b_Wire_holds 2 (some .boolean) ∈ rx_W := rx_in t_346 rfl
theorem z_Wire_holds : Cond.instanceMethod y_Wire_holds ∈ rx_W := rx_in t_345 rfl
theorem s_Wire_holds : Cond.selects y_Wire_holds.cls y_Wire_holds y_Wire_holds ∈ rx_W := rx_in (List.mem_append_left _ (List.mem_map.mpr ⟨(y_Wire_holds, 3), by decide +kernel, rfl⟩)) rfl
theorem w_Msg_copyFrom : Cond.code y_Msg_copyFrom b_Msg_copyFrom 2 none ∈ rx_W := rx_in t_350 rfl
theorem z_Msg_copyFrom : Cond.instanceMethod y_Msg_copyFrom ∈ rx_W := rx_in t_349 rfl
theorem s_Msg_copyFrom : Cond.selects y_Msg_copyFrom.cls y_Msg_copyFrom y_Msg_copyFrom ∈ rx_W := rx_in (List.mem_append_left _ (List.mem_map.mpr ⟨(y_Msg_copyFrom, 9), by decide +kernel, rfl⟩)) rfl
theorem w_Wire_remove : Cond.code y_Wire_remove b_Wire_remove 4 none ∈ rx_W := rx_in t_354 rfl
theorem z_Wire_remove : Cond.instanceMethod y_Wire_remove ∈ rx_W := rx_in t_353 rfl
theorem s_Wire_remove : Cond.selects y_Wire_remove.cls y_Wire_remove y_Wire_remove ∈ rx_W := rx_in (List.mem_append_left _ (List.mem_map.mpr ⟨(y_Wire_remove, 3), by decide +kernel, rfl⟩)) rfl
theorem w_Msg_begin : Cond.code y_Msg_begin b_Msg_begin 5 none ∈ rx_W := rx_in t_308 rfl
theorem z_Msg_begin : Cond.instanceMethod y_Msg_begin ∈ rx_W := rx_in t_307 rfl
theorem s_Msg_begin : Cond.selects y_Msg_begin.cls y_Msg_begin y_Msg_begin ∈ rx_W := rx_in (List.mem_append_left _ (List.mem_map.mpr ⟨(y_Msg_begin, 9), by decide +kernel, rfl⟩)) rfl
theorem u_Net : ∀ w ∈ u_ws R_Net F_Net 6, w ∈ rx_W := by
  intro w hw
  obtain ⟨k, hk, rfl⟩ := List.mem_map.mp hw
  have hk := List.mem_range.mp hk
  match k, hk with
  | 0, _ => exact rx_in t_253 rfl
  | 1, _ => exact rx_in t_255 rfl
  | 2, _ => exact rx_in t_257 rfl
  | 3, _ => exact rx_in t_259 rfl
  | 4, _ => exact rx_in t_261 rfl
  | 5, _ => exact rx_in t_263 rfl
  | k + 6, hk => omega
theorem u_Msg : ∀ w ∈ u_ws R_Msg F_Msg 9, w ∈ rx_W := by
  intro w hw
  obtain ⟨k, hk, rfl⟩ := List.mem_map.mp hw
  have hk := List.mem_range.mp hk
  match k, hk with
  | 0, _ => exact rx_in t_73 rfl
  | 1, _ => exact rx_in t_75 rfl
  | 2, _ => exact rx_in t_77 rfl
  | 3, _ => exact rx_in t_79 rfl
  | 4, _ => exact rx_in t_81 rfl
  | 5, _ => exact rx_in t_83 rfl
  | 6, _ => exact rx_in t_85 rfl
  | 7, _ => exact rx_in t_87 rfl
  | 8, _ => exact rx_in t_89 rfl
  | k + 9, hk => omega
theorem u_Wire : ∀ w ∈ u_ws R_Wire F_Wire 3, w ∈ rx_W := by
  intro w hw
  obtain ⟨k, hk, rfl⟩ := List.mem_map.mp hw
  have hk := List.mem_range.mp hk
  match k, hk with
  | 0, _ => exact rx_in t_101 rfl
  | 1, _ => exact rx_in t_103 rfl
  | 2, _ => exact rx_in t_105 rfl
  | k + 3, hk => omega
theorem u_Mob : ∀ w ∈ u_ws R_Mob F_Mob 14, w ∈ rx_W := by
  intro w hw
  obtain ⟨k, hk, rfl⟩ := List.mem_map.mp hw
  have hk := List.mem_range.mp hk
  match k, hk with
  | 0, _ => exact rx_in t_137 rfl
  | 1, _ => exact rx_in t_139 rfl
  | 2, _ => exact rx_in t_141 rfl
  | 3, _ => exact rx_in t_143 rfl
  | 4, _ => exact rx_in t_145 rfl
  | 5, _ => exact rx_in t_147 rfl
  | 6, _ => exact rx_in t_149 rfl
  | 7, _ => exact rx_in t_151 rfl
  | 8, _ => exact rx_in t_153 rfl
  | 9, _ => exact rx_in t_155 rfl
  | 10, _ => exact rx_in t_157 rfl
  | 11, _ => exact rx_in t_159 rfl
  | 12, _ => exact rx_in t_161 rfl
  | 13, _ => exact rx_in t_163 rfl
  | k + 14, hk => omega
theorem u_Home : ∀ w ∈ u_ws R_Home F_Home 6, w ∈ rx_W := by
  intro w hw
  obtain ⟨k, hk, rfl⟩ := List.mem_map.mp hw
  have hk := List.mem_range.mp hk
  match k, hk with
  | 0, _ => exact rx_in t_181 rfl
  | 1, _ => exact rx_in t_183 rfl
  | 2, _ => exact rx_in t_185 rfl
  | 3, _ => exact rx_in t_187 rfl
  | 4, _ => exact rx_in t_189 rfl
  | 5, _ => exact rx_in t_191 rfl
  | k + 6, hk => omega
theorem u_Fa : ∀ w ∈ u_ws R_Fa F_Fa 6, w ∈ rx_W := by
  intro w hw
  obtain ⟨k, hk, rfl⟩ := List.mem_map.mp hw
  have hk := List.mem_range.mp hk
  match k, hk with
  | 0, _ => exact rx_in t_209 rfl
  | 1, _ => exact rx_in t_211 rfl
  | 2, _ => exact rx_in t_213 rfl
  | 3, _ => exact rx_in t_215 rfl
  | 4, _ => exact rx_in t_217 rfl
  | 5, _ => exact rx_in t_219 rfl
  | k + 6, hk => omega
theorem u_Corr : ∀ w ∈ u_ws R_Corr F_Corr 5, w ∈ rx_W := by
  intro w hw
  obtain ⟨k, hk, rfl⟩ := List.mem_map.mp hw
  have hk := List.mem_range.mp hk
  match k, hk with
  | 0, _ => exact rx_in t_236 rfl
  | 1, _ => exact rx_in t_238 rfl
  | 2, _ => exact rx_in t_240 rfl
  | 3, _ => exact rx_in t_242 rfl
  | 4, _ => exact rx_in t_244 rfl
  | k + 5, hk => omega
theorem u_Mod : ∀ w ∈ u_ws R_Mod F_Mod 29, w ∈ rx_W := by
  intro w hw
  obtain ⟨k, hk, rfl⟩ := List.mem_map.mp hw
  have hk := List.mem_range.mp hk
  match k, hk with
  | 0, _ => exact rx_in t_550 rfl
  | 1, _ => exact rx_in t_552 rfl
  | 2, _ => exact rx_in t_554 rfl
  | 3, _ => exact rx_in t_556 rfl
  | 4, _ => exact rx_in t_558 rfl
  | 5, _ => exact rx_in t_560 rfl
  | 6, _ => exact rx_in t_562 rfl
  | 7, _ => exact rx_in t_564 rfl
  | 8, _ => exact rx_in t_566 rfl
  | 9, _ => exact rx_in t_568 rfl
  | 10, _ => exact rx_in t_570 rfl
  | 11, _ => exact rx_in t_572 rfl
  | 12, _ => exact rx_in t_574 rfl
  | 13, _ => exact rx_in t_576 rfl
  | 14, _ => exact rx_in t_578 rfl
  | 15, _ => exact rx_in t_580 rfl
  | 16, _ => exact rx_in t_582 rfl
  | 17, _ => exact rx_in t_584 rfl
  | 18, _ => exact rx_in t_586 rfl
  | 19, _ => exact rx_in t_588 rfl
  | 20, _ => exact rx_in t_590 rfl
  | 21, _ => exact rx_in t_592 rfl
  | 22, _ => exact rx_in t_594 rfl
  | 23, _ => exact rx_in t_596 rfl
  | 24, _ => exact rx_in t_598 rfl
  | 25, _ => exact rx_in t_600 rfl
  | 26, _ => exact rx_in t_602 rfl
  | 27, _ => exact rx_in t_604 rfl
  | 28, _ => exact rx_in t_606 rfl
  | k + 29, hk => omega
end
section
section RXF
variable {p : Program} {l : Launch} {e : Env} {R : Room} {s : State} {m : MethodId} {args : Array Value} {below : List Frame} {meth : Method} {c : Code} {H0 : Heap} {cells slots : Nat} {Q : State → Prop} {nL : Nat} {σ σ' : rMem} {lo : List (Nat × Value)} {rest : List Value} {cc : ByteArray} {ret : Option FieldType} {pc : Nat} (D : va_G) (b : Nat) (ca : Nat → ClassId)
theorem q_Corr_28 (C : rx_Cw p s m args meth c R_Corr cc nL ret (rx_fin D b ca))  {x0 : Int32} {x1 : Int32} {x2 : Int32} {x3 : Int32} {v : Nat} (hd : decode cc pc = .ok (.invokevirtual 28, 3)) (hM : rx_C l (rx_fin D b ca) y_Wire_sendTo b_Wire_sendTo 6 (some (.object "RoamingNet$Message")) (rx_rm 2) [.ref (rg_A (rx_fin D b ca) 1), .int x0, .int x1, .int x2, .int x3] σ (some (.ref (rg_A (rx_fin D b ca) v))) σ') (hq9 : rx_SI σ → 3 ≤ v ∧ v < 45) (hR : (rx_rm 2).frames + 1 ≤ R.frames ∧ 8 + (6 + 11) + (rx_rm 2).locals ≤ R.locals) (hf : cells ≤ R.cells ∧ slots ≤ R.slots) (hW : (rest.map fun v => v.category).sum ≤ 8)
    (k : (3 ≤ v ∧ v < 45) → rx_X p l e R s m args below meth c (rg_O (rx_fin D b ca)) H0 cells slots Q nL (rx_m (rx_fin D b ca) σ') (pc + 3) lo (.ref (rg_A (rx_fin D b ca) v) :: rest)) : rx_X p l e R s m args below meth c (rg_O (rx_fin D b ca)) H0 cells slots Q nL (rx_m (rx_fin D b ca) σ) pc lo (.int x3 :: .int x2 :: .int x1 :: .int x0 :: .ref (rg_A (rx_fin D b ca) 1) :: rest) :=
  rx_si (fun hI9 => rx_callVN C w_Wire_sendTo t_330 z_Wire_sendTo s_Wire_sendTo (rx_in t_2 rfl) (by decide +kernel) rfl hd (rx_lt (by omega)) rfl hM ⟨rfl, rfl⟩ hR hf (n := 4) rfl rfl hW (k (hq9 hI9)))
theorem q_Corr_49 (C : rx_Cw p s m args meth c R_Corr cc nL ret (rx_fin D b ca))  {x0 : Int32}  (hd : decode cc pc = .ok (.invokevirtual 49, 3)) (hM : rx_C l (rx_fin D b ca) y_Corr_pump b_Corr_pump 2 none (rx_rm 3) [.ref (rg_A (rx_fin D b ca) 66), .int x0] σ none σ') (hR : (rx_rm 3).frames + 1 ≤ R.frames ∧ 8 + (2 + 11) + (rx_rm 3).locals ≤ R.locals) (hf : cells ≤ R.cells ∧ slots ≤ R.slots) (hW : (rest.map fun v => v.category).sum ≤ 8)
    (k : rx_X p l e R s m args below meth c (rg_O (rx_fin D b ca)) H0 cells slots Q nL (rx_m (rx_fin D b ca) σ') (pc + 3) lo rest) : rx_X p l e R s m args below meth c (rg_O (rx_fin D b ca)) H0 cells slots Q nL (rx_m (rx_fin D b ca) σ) pc lo (.int x0 :: .ref (rg_A (rx_fin D b ca) 66) :: rest) :=
  rx_callV C w_Corr_pump (rx_in t_387 rfl) z_Corr_pump s_Corr_pump (rx_in t_7 rfl) (by decide +kernel) rfl hd (rx_lt (by omega)) rfl hM ⟨rfl, rfl⟩ hR hf (n := 1) rfl rfl hW k
theorem q_Fa_37 (C : rx_Cw p s m args meth c R_Fa cc nL ret (rx_fin D b ca)) {a : Nat} (ha : a < 3) {x0 : Int32} {v : Int32} (hd : decode cc pc = .ok (.invokevirtual 37, 3)) (hM : rx_C l (rx_fin D b ca) y_Fa_isVisited b_Fa_isVisited 2 (some .boolean) (rx_rm 0) [.ref (rg_A (rx_fin D b ca) (54 + 4 * a)), .int x0] σ (some (.int v)) σ') (hR : (rx_rm 0).frames + 1 ≤ R.frames ∧ 8 + (2 + 11) + (rx_rm 0).locals ≤ R.locals) (hf : cells ≤ R.cells ∧ slots ≤ R.slots) (hW : (rest.map fun v => v.category).sum ≤ 8)
    (k : rx_X p l e R s m args below meth c (rg_O (rx_fin D b ca)) H0 cells slots Q nL (rx_m (rx_fin D b ca) σ') (pc + 3) lo (.int v :: rest)) : rx_X p l e R s m args below meth c (rg_O (rx_fin D b ca)) H0 cells slots Q nL (rx_m (rx_fin D b ca) σ) pc lo (.int x0 :: .ref (rg_A (rx_fin D b ca) (54 + 4 * a)) :: rest) :=
  rx_callV C w_Fa_isVisited (rx_in t_427 rfl) z_Fa_isVisited s_Fa_isVisited (rx_in t_6 rfl) (by decide +kernel) rfl hd (rx_lt (by omega)) (rx_E_fa ha _) hM ⟨rfl, rfl⟩ hR hf (n := 1) rfl rfl hW k
theorem q_Fa_41 (C : rx_Cw p s m args meth c R_Fa cc nL ret (rx_fin D b ca)) {a : Nat} (ha : a < 3) {x0 : Int32} {v : Int32} (hd : decode cc pc = .ok (.invokevirtual 41, 3)) (hM : rx_C l (rx_fin D b ca) y_Fa_hasEntry b_Fa_hasEntry 2 (some .boolean) (rx_rm 0) [.ref (rg_A (rx_fin D b ca) (54 + 4 * a)), .int x0] σ (some (.int v)) σ') (hR : (rx_rm 0).frames + 1 ≤ R.frames ∧ 8 + (2 + 11) + (rx_rm 0).locals ≤ R.locals) (hf : cells ≤ R.cells ∧ slots ≤ R.slots) (hW : (rest.map fun v => v.category).sum ≤ 8)
    (k : rx_X p l e R s m args below meth c (rg_O (rx_fin D b ca)) H0 cells slots Q nL (rx_m (rx_fin D b ca) σ') (pc + 3) lo (.int v :: rest)) : rx_X p l e R s m args below meth c (rg_O (rx_fin D b ca)) H0 cells slots Q nL (rx_m (rx_fin D b ca) σ) pc lo (.int x0 :: .ref (rg_A (rx_fin D b ca) (54 + 4 * a)) :: rest) :=
  rx_callV C w_Fa_hasEntry (rx_in t_431 rfl) z_Fa_hasEntry s_Fa_hasEntry (rx_in t_6 rfl) (by decide +kernel) rfl hd (rx_lt (by omega)) (rx_E_fa ha _) hM ⟨rfl, rfl⟩ hR hf (n := 1) rfl rfl hW k
theorem q_Fa_44 (C : rx_Cw p s m args meth c R_Fa cc nL ret (rx_fin D b ca)) {a : Nat} (ha : a < 3) {x0 : Int32} {v : Int32} (hd : decode cc pc = .ok (.invokevirtual 44, 3)) (hM : rx_C l (rx_fin D b ca) y_Fa_takesPlace b_Fa_takesPlace 2 (some .boolean) (rx_rm 1) [.ref (rg_A (rx_fin D b ca) (54 + 4 * a)), .int x0] σ (some (.int v)) σ') (hR : (rx_rm 1).frames + 1 ≤ R.frames ∧ 8 + (2 + 11) + (rx_rm 1).locals ≤ R.locals) (hf : cells ≤ R.cells ∧ slots ≤ R.slots) (hW : (rest.map fun v => v.category).sum ≤ 8)
    (k : rx_X p l e R s m args below meth c (rg_O (rx_fin D b ca)) H0 cells slots Q nL (rx_m (rx_fin D b ca) σ') (pc + 3) lo (.int v :: rest)) : rx_X p l e R s m args below meth c (rg_O (rx_fin D b ca)) H0 cells slots Q nL (rx_m (rx_fin D b ca) σ) pc lo (.int x0 :: .ref (rg_A (rx_fin D b ca) (54 + 4 * a)) :: rest) :=
  rx_callV C w_Fa_takesPlace (rx_in t_423 rfl) z_Fa_takesPlace s_Fa_takesPlace (rx_in t_6 rfl) (by decide +kernel) rfl hd (rx_lt (by omega)) (rx_E_fa ha _) hM ⟨rfl, rfl⟩ hR hf (n := 1) rfl rfl hW k
theorem q_Fa_52 (C : rx_Cw p s m args meth c R_Fa cc nL ret (rx_fin D b ca)) {a : Nat} (ha : a < 3) {x0 : Nat}  (hd : decode cc pc = .ok (.invokevirtual 52, 3)) (hM : rx_C l (rx_fin D b ca) y_Fa_takeRequest b_Fa_takeRequest 4 none (rx_rm 4) [.ref (rg_A (rx_fin D b ca) (54 + 4 * a)), .ref (rg_A (rx_fin D b ca) x0)] σ none σ') (hR : (rx_rm 4).frames + 1 ≤ R.frames ∧ 8 + (4 + 11) + (rx_rm 4).locals ≤ R.locals) (hf : cells ≤ R.cells ∧ slots ≤ R.slots) (hW : (rest.map fun v => v.category).sum ≤ 8)
    (k : rx_X p l e R s m args below meth c (rg_O (rx_fin D b ca)) H0 cells slots Q nL (rx_m (rx_fin D b ca) σ') (pc + 3) lo rest) : rx_X p l e R s m args below meth c (rg_O (rx_fin D b ca)) H0 cells slots Q nL (rx_m (rx_fin D b ca) σ) pc lo (.ref (rg_A (rx_fin D b ca) x0) :: .ref (rg_A (rx_fin D b ca) (54 + 4 * a)) :: rest) :=
  rx_callV C w_Fa_takeRequest (rx_in t_419 rfl) z_Fa_takeRequest s_Fa_takeRequest (rx_in t_6 rfl) (by decide +kernel) rfl hd (rx_lt (by omega)) (rx_E_fa ha _) hM ⟨rfl, rfl⟩ hR hf (n := 1) rfl rfl hW k
theorem q_Fa_56 (C : rx_Cw p s m args meth c R_Fa cc nL ret (rx_fin D b ca)) {a : Nat} (ha : a < 3) {x0 : Nat}  (hd : decode cc pc = .ok (.invokevirtual 56, 3)) (hM : rx_C l (rx_fin D b ca) y_Fa_takeReply b_Fa_takeReply 3 none (rx_rm 3) [.ref (rg_A (rx_fin D b ca) (54 + 4 * a)), .ref (rg_A (rx_fin D b ca) x0)] σ none σ') (hR : (rx_rm 3).frames + 1 ≤ R.frames ∧ 8 + (3 + 11) + (rx_rm 3).locals ≤ R.locals) (hf : cells ≤ R.cells ∧ slots ≤ R.slots) (hW : (rest.map fun v => v.category).sum ≤ 8)
    (k : rx_X p l e R s m args below meth c (rg_O (rx_fin D b ca)) H0 cells slots Q nL (rx_m (rx_fin D b ca) σ') (pc + 3) lo rest) : rx_X p l e R s m args below meth c (rg_O (rx_fin D b ca)) H0 cells slots Q nL (rx_m (rx_fin D b ca) σ) pc lo (.ref (rg_A (rx_fin D b ca) x0) :: .ref (rg_A (rx_fin D b ca) (54 + 4 * a)) :: rest) :=
  rx_callV C w_Fa_takeReply (rx_in t_445 rfl) z_Fa_takeReply s_Fa_takeReply (rx_in t_6 rfl) (by decide +kernel) rfl hd (rx_lt (by omega)) (rx_E_fa ha _) hM ⟨rfl, rfl⟩ hR hf (n := 1) rfl rfl hW k
theorem q_Fa_65 (C : rx_Cw p s m args meth c R_Fa cc nL ret (rx_fin D b ca)) {a : Nat} (ha : a < 3) {x0 : Int32} {x1 : Int32}  (hd : decode cc pc = .ok (.invokevirtual 65, 3)) (hM : rx_C l (rx_fin D b ca) y_Fa_takeTunnel b_Fa_takeTunnel 3 none (rx_rm 4) [.ref (rg_A (rx_fin D b ca) (54 + 4 * a)), .int x0, .int x1] σ none σ') (hR : (rx_rm 4).frames + 1 ≤ R.frames ∧ 8 + (3 + 11) + (rx_rm 4).locals ≤ R.locals) (hf : cells ≤ R.cells ∧ slots ≤ R.slots) (hW : (rest.map fun v => v.category).sum ≤ 8)
    (k : rx_X p l e R s m args below meth c (rg_O (rx_fin D b ca)) H0 cells slots Q nL (rx_m (rx_fin D b ca) σ') (pc + 3) lo rest) : rx_X p l e R s m args below meth c (rg_O (rx_fin D b ca)) H0 cells slots Q nL (rx_m (rx_fin D b ca) σ) pc lo (.int x1 :: .int x0 :: .ref (rg_A (rx_fin D b ca) (54 + 4 * a)) :: rest) :=
  rx_callV C w_Fa_takeTunnel (rx_in t_449 rfl) z_Fa_takeTunnel s_Fa_takeTunnel (rx_in t_6 rfl) (by decide +kernel) rfl hd (rx_lt (by omega)) (rx_E_fa ha _) hM ⟨rfl, rfl⟩ hR hf (n := 2) rfl rfl hW k
theorem q_Fa_72 (C : rx_Cw p s m args meth c R_Fa cc nL ret (rx_fin D b ca)) {a : Nat} (ha : a < 3)  {v : Int32} (hd : decode cc pc = .ok (.invokevirtual 72, 3)) (hM : rx_C l (rx_fin D b ca) y_Fa_isCrowded b_Fa_isCrowded 3 (some .boolean) (rx_rm 2) [.ref (rg_A (rx_fin D b ca) (54 + 4 * a))] σ (some (.int v)) σ') (hR : (rx_rm 2).frames + 1 ≤ R.frames ∧ 8 + (3 + 11) + (rx_rm 2).locals ≤ R.locals) (hf : cells ≤ R.cells ∧ slots ≤ R.slots) (hW : (rest.map fun v => v.category).sum ≤ 8)
    (k : rx_X p l e R s m args below meth c (rg_O (rx_fin D b ca)) H0 cells slots Q nL (rx_m (rx_fin D b ca) σ') (pc + 3) lo (.int v :: rest)) : rx_X p l e R s m args below meth c (rg_O (rx_fin D b ca)) H0 cells slots Q nL (rx_m (rx_fin D b ca) σ) pc lo (.ref (rg_A (rx_fin D b ca) (54 + 4 * a)) :: rest) :=
  rx_callV C w_Fa_isCrowded (rx_in t_435 rfl) z_Fa_isCrowded s_Fa_isCrowded (rx_in t_6 rfl) (by decide +kernel) rfl hd (rx_lt (by omega)) (rx_E_fa ha _) hM ⟨rfl, rfl⟩ hR hf (n := 0) rfl rfl hW k
theorem q_Fa_76 (C : rx_Cw p s m args meth c R_Fa cc nL ret (rx_fin D b ca))  {x0 : Int32} {x1 : Int32} {x2 : Int32} {x3 : Int32} {v : Nat} (hd : decode cc pc = .ok (.invokevirtual 76, 3)) (hM : rx_C l (rx_fin D b ca) y_Wire_sendInNetwork b_Wire_sendInNetwork 6 (some (.object "RoamingNet$Message")) (rx_rm 3) [.ref (rg_A (rx_fin D b ca) 1), .int x0, .int x1, .int x2, .int x3] σ (some (.ref (rg_A (rx_fin D b ca) v))) σ') (hq9 : rx_SI σ → 3 ≤ v ∧ v < 45) (hR : (rx_rm 3).frames + 1 ≤ R.frames ∧ 8 + (6 + 11) + (rx_rm 3).locals ≤ R.locals) (hf : cells ≤ R.cells ∧ slots ≤ R.slots) (hW : (rest.map fun v => v.category).sum ≤ 8)
    (k : (3 ≤ v ∧ v < 45) → rx_X p l e R s m args below meth c (rg_O (rx_fin D b ca)) H0 cells slots Q nL (rx_m (rx_fin D b ca) σ') (pc + 3) lo (.ref (rg_A (rx_fin D b ca) v) :: rest)) : rx_X p l e R s m args below meth c (rg_O (rx_fin D b ca)) H0 cells slots Q nL (rx_m (rx_fin D b ca) σ) pc lo (.int x3 :: .int x2 :: .int x1 :: .int x0 :: .ref (rg_A (rx_fin D b ca) 1) :: rest) :=
  rx_si (fun hI9 => rx_callVN C w_Wire_sendInNetwork t_439 z_Wire_sendInNetwork s_Wire_sendInNetwork (rx_in t_2 rfl) (by decide +kernel) rfl hd (rx_lt (by omega)) rfl hM ⟨rfl, rfl⟩ hR hf (n := 4) rfl rfl hW (k (hq9 hI9)))
theorem q_Fa_83 (C : rx_Cw p s m args meth c R_Fa cc nL ret (rx_fin D b ca))  {x0 : Nat} {x1 : Int32} {x2 : Int32}  (hd : decode cc pc = .ok (.invokevirtual 83, 3)) (hM : rx_C l (rx_fin D b ca) y_Wire_sendOn b_Wire_sendOn 5 none (rx_rm 2) [.ref (rg_A (rx_fin D b ca) 1), .ref (rg_A (rx_fin D b ca) x0), .int x1, .int x2] σ none σ') (hR : (rx_rm 2).frames + 1 ≤ R.frames ∧ 8 + (5 + 11) + (rx_rm 2).locals ≤ R.locals) (hf : cells ≤ R.cells ∧ slots ≤ R.slots) (hW : (rest.map fun v => v.category).sum ≤ 8)
    (k : rx_X p l e R s m args below meth c (rg_O (rx_fin D b ca)) H0 cells slots Q nL (rx_m (rx_fin D b ca) σ') (pc + 3) lo rest) : rx_X p l e R s m args below meth c (rg_O (rx_fin D b ca)) H0 cells slots Q nL (rx_m (rx_fin D b ca) σ) pc lo (.int x2 :: .int x1 :: .ref (rg_A (rx_fin D b ca) x0) :: .ref (rg_A (rx_fin D b ca) 1) :: rest) :=
  rx_callVN C w_Wire_sendOn t_440 z_Wire_sendOn s_Wire_sendOn (rx_in t_2 rfl) (by decide +kernel) rfl hd (rx_lt (by omega)) rfl hM ⟨rfl, rfl⟩ hR hf (n := 3) rfl rfl hW k
theorem q_Home_42 (C : rx_Cw p s m args meth c R_Home cc nL ret (rx_fin D b ca))  {x0 : Nat}  (hd : decode cc pc = .ok (.invokevirtual 42, 3)) (hM : rx_C l (rx_fin D b ca) y_Home_takeRequest b_Home_takeRequest 6 none (rx_rm 4) [.ref (rg_A (rx_fin D b ca) 48), .ref (rg_A (rx_fin D b ca) x0)] σ none σ') (hR : (rx_rm 4).frames + 1 ≤ R.frames ∧ 8 + (6 + 11) + (rx_rm 4).locals ≤ R.locals) (hf : cells ≤ R.cells ∧ slots ≤ R.slots) (hW : (rest.map fun v => v.category).sum ≤ 8)
    (k : rx_X p l e R s m args below meth c (rg_O (rx_fin D b ca)) H0 cells slots Q nL (rx_m (rx_fin D b ca) σ') (pc + 3) lo rest) : rx_X p l e R s m args below meth c (rg_O (rx_fin D b ca)) H0 cells slots Q nL (rx_m (rx_fin D b ca) σ) pc lo (.ref (rg_A (rx_fin D b ca) x0) :: .ref (rg_A (rx_fin D b ca) 48) :: rest) :=
  rx_callV C w_Home_takeRequest (rx_in t_392 rfl) z_Home_takeRequest s_Home_takeRequest (rx_in t_5 rfl) (by decide +kernel) rfl hd (rx_lt (by omega)) rfl hM ⟨rfl, rfl⟩ hR hf (n := 1) rfl rfl hW k
theorem q_Home_52 (C : rx_Cw p s m args meth c R_Home cc nL ret (rx_fin D b ca))  {x0 : Int32} {x1 : Int32}  (hd : decode cc pc = .ok (.invokevirtual 52, 3)) (hM : rx_C l (rx_fin D b ca) y_Home_takeData b_Home_takeData 3 none (rx_rm 4) [.ref (rg_A (rx_fin D b ca) 48), .int x0, .int x1] σ none σ') (hR : (rx_rm 4).frames + 1 ≤ R.frames ∧ 8 + (3 + 11) + (rx_rm 4).locals ≤ R.locals) (hf : cells ≤ R.cells ∧ slots ≤ R.slots) (hW : (rest.map fun v => v.category).sum ≤ 8)
    (k : rx_X p l e R s m args below meth c (rg_O (rx_fin D b ca)) H0 cells slots Q nL (rx_m (rx_fin D b ca) σ') (pc + 3) lo rest) : rx_X p l e R s m args below meth c (rg_O (rx_fin D b ca)) H0 cells slots Q nL (rx_m (rx_fin D b ca) σ) pc lo (.int x1 :: .int x0 :: .ref (rg_A (rx_fin D b ca) 48) :: rest) :=
  rx_callV C w_Home_takeData (rx_in t_407 rfl) z_Home_takeData s_Home_takeData (rx_in t_5 rfl) (by decide +kernel) rfl hd (rx_lt (by omega)) rfl hM ⟨rfl, rfl⟩ hR hf (n := 2) rfl rfl hW k
theorem q_Home_56 (C : rx_Cw p s m args meth c R_Home cc nL ret (rx_fin D b ca))  {x0 : Nat} {v : Int32} (hd : decode cc pc = .ok (.invokevirtual 56, 3)) (hM : rx_C l (rx_fin D b ca) y_Home_judge b_Home_judge 3 (some .int) (rx_rm 2) [.ref (rg_A (rx_fin D b ca) 48), .ref (rg_A (rx_fin D b ca) x0)] σ (some (.int v)) σ') (hR : (rx_rm 2).frames + 1 ≤ R.frames ∧ 8 + (3 + 11) + (rx_rm 2).locals ≤ R.locals) (hf : cells ≤ R.cells ∧ slots ≤ R.slots) (hW : (rest.map fun v => v.category).sum ≤ 8)
    (k : rx_X p l e R s m args below meth c (rg_O (rx_fin D b ca)) H0 cells slots Q nL (rx_m (rx_fin D b ca) σ') (pc + 3) lo (.int v :: rest)) : rx_X p l e R s m args below meth c (rg_O (rx_fin D b ca)) H0 cells slots Q nL (rx_m (rx_fin D b ca) σ) pc lo (.ref (rg_A (rx_fin D b ca) x0) :: .ref (rg_A (rx_fin D b ca) 48) :: rest) :=
  rx_callV C w_Home_judge (rx_in t_396 rfl) z_Home_judge s_Home_judge (rx_in t_5 rfl) (by decide +kernel) rfl hd (rx_lt (by omega)) rfl hM ⟨rfl, rfl⟩ hR hf (n := 1) rfl rfl hW k
theorem q_Home_71 (C : rx_Cw p s m args meth c R_Home cc nL ret (rx_fin D b ca))  {x0 : Int32} {x1 : Int32} {x2 : Int32} {x3 : Int32} {v : Nat} (hd : decode cc pc = .ok (.invokevirtual 71, 3)) (hM : rx_C l (rx_fin D b ca) y_Wire_sendInNetwork b_Wire_sendInNetwork 6 (some (.object "RoamingNet$Message")) (rx_rm 3) [.ref (rg_A (rx_fin D b ca) 1), .int x0, .int x1, .int x2, .int x3] σ (some (.ref (rg_A (rx_fin D b ca) v))) σ') (hq9 : rx_SI σ → 3 ≤ v ∧ v < 45) (hR : (rx_rm 3).frames + 1 ≤ R.frames ∧ 8 + (6 + 11) + (rx_rm 3).locals ≤ R.locals) (hf : cells ≤ R.cells ∧ slots ≤ R.slots) (hW : (rest.map fun v => v.category).sum ≤ 8)
    (k : (3 ≤ v ∧ v < 45) → rx_X p l e R s m args below meth c (rg_O (rx_fin D b ca)) H0 cells slots Q nL (rx_m (rx_fin D b ca) σ') (pc + 3) lo (.ref (rg_A (rx_fin D b ca) v) :: rest)) : rx_X p l e R s m args below meth c (rg_O (rx_fin D b ca)) H0 cells slots Q nL (rx_m (rx_fin D b ca) σ) pc lo (.int x3 :: .int x2 :: .int x1 :: .int x0 :: .ref (rg_A (rx_fin D b ca) 1) :: rest) :=
  rx_si (fun hI9 => rx_callVN C w_Wire_sendInNetwork t_404 z_Wire_sendInNetwork s_Wire_sendInNetwork (rx_in t_2 rfl) (by decide +kernel) rfl hd (rx_lt (by omega)) rfl hM ⟨rfl, rfl⟩ hR hf (n := 4) rfl rfl hW (k (hq9 hI9)))
theorem q_Home_75 (C : rx_Cw p s m args meth c R_Home cc nL ret (rx_fin D b ca))  {x0 : Int32} {x1 : Int32} {x2 : Int32} {x3 : Int32} {v : Nat} (hd : decode cc pc = .ok (.invokevirtual 75, 3)) (hM : rx_C l (rx_fin D b ca) y_Wire_sendTo b_Wire_sendTo 6 (some (.object "RoamingNet$Message")) (rx_rm 2) [.ref (rg_A (rx_fin D b ca) 1), .int x0, .int x1, .int x2, .int x3] σ (some (.ref (rg_A (rx_fin D b ca) v))) σ') (hq9 : rx_SI σ → 3 ≤ v ∧ v < 45) (hR : (rx_rm 2).frames + 1 ≤ R.frames ∧ 8 + (6 + 11) + (rx_rm 2).locals ≤ R.locals) (hf : cells ≤ R.cells ∧ slots ≤ R.slots) (hW : (rest.map fun v => v.category).sum ≤ 8)
    (k : (3 ≤ v ∧ v < 45) → rx_X p l e R s m args below meth c (rg_O (rx_fin D b ca)) H0 cells slots Q nL (rx_m (rx_fin D b ca) σ') (pc + 3) lo (.ref (rg_A (rx_fin D b ca) v) :: rest)) : rx_X p l e R s m args below meth c (rg_O (rx_fin D b ca)) H0 cells slots Q nL (rx_m (rx_fin D b ca) σ) pc lo (.int x3 :: .int x2 :: .int x1 :: .int x0 :: .ref (rg_A (rx_fin D b ca) 1) :: rest) :=
  rx_si (fun hI9 => rx_callVN C w_Wire_sendTo t_405 z_Wire_sendTo s_Wire_sendTo (rx_in t_2 rfl) (by decide +kernel) rfl hd (rx_lt (by omega)) rfl hM ⟨rfl, rfl⟩ hR hf (n := 4) rfl rfl hW (k (hq9 hI9)))
theorem q_Home_81 (C : rx_Cw p s m args meth c R_Home cc nL ret (rx_fin D b ca)) {q : Nat} (hq : 3 ≤ q ∧ q < 45) {x0 : Int32} {v : Int32} (hd : decode cc pc = .ok (.invokevirtual 81, 3)) (hM : rx_C l (rx_fin D b ca) y_Msg_replySeal b_Msg_replySeal 3 (some .int) (rx_rm 1) [.ref (rg_A (rx_fin D b ca) q), .int x0] σ (some (.int v)) σ') (hR : (rx_rm 1).frames + 1 ≤ R.frames ∧ 8 + (3 + 11) + (rx_rm 1).locals ≤ R.locals) (hf : cells ≤ R.cells ∧ slots ≤ R.slots) (hW : (rest.map fun v => v.category).sum ≤ 8)
    (k : rx_X p l e R s m args below meth c (rg_O (rx_fin D b ca)) H0 cells slots Q nL (rx_m (rx_fin D b ca) σ') (pc + 3) lo (.int v :: rest)) : rx_X p l e R s m args below meth c (rg_O (rx_fin D b ca)) H0 cells slots Q nL (rx_m (rx_fin D b ca) σ) pc lo (.int x0 :: .ref (rg_A (rx_fin D b ca) q) :: rest) :=
  rx_callVN C w_Msg_replySeal t_406 z_Msg_replySeal s_Msg_replySeal (rx_in t_3 rfl) (by decide +kernel) rfl hd (rx_lt (by omega)) (rx_E_msg hq _) hM ⟨rfl, rfl⟩ hR hf (n := 1) rfl rfl hW k
theorem q_Home_88 (C : rx_Cw p s m args meth c R_Home cc nL ret (rx_fin D b ca)) {q : Nat} (hq : 3 ≤ q ∧ q < 45) {x0 : Int32} {v : Int32} (hd : decode cc pc = .ok (.invokevirtual 88, 3)) (hM : rx_C l (rx_fin D b ca) y_Msg_requestSeal b_Msg_requestSeal 3 (some .int) (rx_rm 1) [.ref (rg_A (rx_fin D b ca) q), .int x0] σ (some (.int v)) σ') (hR : (rx_rm 1).frames + 1 ≤ R.frames ∧ 8 + (3 + 11) + (rx_rm 1).locals ≤ R.locals) (hf : cells ≤ R.cells ∧ slots ≤ R.slots) (hW : (rest.map fun v => v.category).sum ≤ 8)
    (k : rx_X p l e R s m args below meth c (rg_O (rx_fin D b ca)) H0 cells slots Q nL (rx_m (rx_fin D b ca) σ') (pc + 3) lo (.int v :: rest)) : rx_X p l e R s m args below meth c (rg_O (rx_fin D b ca)) H0 cells slots Q nL (rx_m (rx_fin D b ca) σ) pc lo (.int x0 :: .ref (rg_A (rx_fin D b ca) q) :: rest) :=
  rx_callVN C w_Msg_requestSeal t_400 z_Msg_requestSeal s_Msg_requestSeal (rx_in t_3 rfl) (by decide +kernel) rfl hd (rx_lt (by omega)) (rx_E_msg hq _) hM ⟨rfl, rfl⟩ hR hf (n := 1) rfl rfl hW k
theorem q_Home_91 (C : rx_Cw p s m args meth c R_Home cc nL ret (rx_fin D b ca))  {x0 : Int32} {v : Int32} (hd : decode cc pc = .ok (.invokevirtual 91, 3)) (hM : rx_C l (rx_fin D b ca) y_Home_isBound b_Home_isBound 2 (some .boolean) (rx_rm 0) [.ref (rg_A (rx_fin D b ca) 48), .int x0] σ (some (.int v)) σ') (hR : (rx_rm 0).frames + 1 ≤ R.frames ∧ 8 + (2 + 11) + (rx_rm 0).locals ≤ R.locals) (hf : cells ≤ R.cells ∧ slots ≤ R.slots) (hW : (rest.map fun v => v.category).sum ≤ 8)
    (k : rx_X p l e R s m args below meth c (rg_O (rx_fin D b ca)) H0 cells slots Q nL (rx_m (rx_fin D b ca) σ') (pc + 3) lo (.int v :: rest)) : rx_X p l e R s m args below meth c (rg_O (rx_fin D b ca)) H0 cells slots Q nL (rx_m (rx_fin D b ca) σ) pc lo (.int x0 :: .ref (rg_A (rx_fin D b ca) 48) :: rest) :=
  rx_callV C w_Home_isBound (rx_in t_411 rfl) z_Home_isBound s_Home_isBound (rx_in t_5 rfl) (by decide +kernel) rfl hd (rx_lt (by omega)) rfl hM ⟨rfl, rfl⟩ hR hf (n := 1) rfl rfl hW k
theorem q_Mob_44 (C : rx_Cw p s m args meth c R_Mob cc nL ret (rx_fin D b ca)) {j : Nat} (hj : j < 2) {x0 : Int32}  (hd : decode cc pc = .ok (.invokevirtual 44, 3)) (hM : rx_C l (rx_fin D b ca) y_Mob_takeAdvert b_Mob_takeAdvert 3 none (rx_rm 4) [.ref (rg_A (rx_fin D b ca) (46 + j)), .int x0] σ none σ') (hR : (rx_rm 4).frames + 1 ≤ R.frames ∧ 8 + (3 + 11) + (rx_rm 4).locals ≤ R.locals) (hf : cells ≤ R.cells ∧ slots ≤ R.slots) (hW : (rest.map fun v => v.category).sum ≤ 8)
    (k : rx_X p l e R s m args below meth c (rg_O (rx_fin D b ca)) H0 cells slots Q nL (rx_m (rx_fin D b ca) σ') (pc + 3) lo rest) : rx_X p l e R s m args below meth c (rg_O (rx_fin D b ca)) H0 cells slots Q nL (rx_m (rx_fin D b ca) σ) pc lo (.int x0 :: .ref (rg_A (rx_fin D b ca) (46 + j)) :: rest) :=
  rx_callV C w_Mob_takeAdvert (rx_in t_363 rfl) z_Mob_takeAdvert s_Mob_takeAdvert (rx_in t_4 rfl) (by decide +kernel) rfl hd (rx_lt (by omega)) (rx_E_mob hj _) hM ⟨rfl, rfl⟩ hR hf (n := 1) rfl rfl hW k
theorem q_Mob_48 (C : rx_Cw p s m args meth c R_Mob cc nL ret (rx_fin D b ca)) {j : Nat} (hj : j < 2) {x0 : Nat}  (hd : decode cc pc = .ok (.invokevirtual 48, 3)) (hM : rx_C l (rx_fin D b ca) y_Mob_takeReply b_Mob_takeReply 2 none (rx_rm 2) [.ref (rg_A (rx_fin D b ca) (46 + j)), .ref (rg_A (rx_fin D b ca) x0)] σ none σ') (hR : (rx_rm 2).frames + 1 ≤ R.frames ∧ 8 + (2 + 11) + (rx_rm 2).locals ≤ R.locals) (hf : cells ≤ R.cells ∧ slots ≤ R.slots) (hW : (rest.map fun v => v.category).sum ≤ 8)
    (k : rx_X p l e R s m args below meth c (rg_O (rx_fin D b ca)) H0 cells slots Q nL (rx_m (rx_fin D b ca) σ') (pc + 3) lo rest) : rx_X p l e R s m args below meth c (rg_O (rx_fin D b ca)) H0 cells slots Q nL (rx_m (rx_fin D b ca) σ) pc lo (.ref (rg_A (rx_fin D b ca) x0) :: .ref (rg_A (rx_fin D b ca) (46 + j)) :: rest) :=
  rx_callV C w_Mob_takeReply (rx_in t_371 rfl) z_Mob_takeReply s_Mob_takeReply (rx_in t_4 rfl) (by decide +kernel) rfl hd (rx_lt (by omega)) (rx_E_mob hj _) hM ⟨rfl, rfl⟩ hR hf (n := 1) rfl rfl hW k
theorem q_Mob_52 (C : rx_Cw p s m args meth c R_Mob cc nL ret (rx_fin D b ca)) {j : Nat} (hj : j < 2) {x0 : Int32}  (hd : decode cc pc = .ok (.invokevirtual 52, 3)) (hM : rx_C l (rx_fin D b ca) y_Mob_takeData b_Mob_takeData 2 none (rx_rm 3) [.ref (rg_A (rx_fin D b ca) (46 + j)), .int x0] σ none σ') (hR : (rx_rm 3).frames + 1 ≤ R.frames ∧ 8 + (2 + 11) + (rx_rm 3).locals ≤ R.locals) (hf : cells ≤ R.cells ∧ slots ≤ R.slots) (hW : (rest.map fun v => v.category).sum ≤ 8)
    (k : rx_X p l e R s m args below meth c (rg_O (rx_fin D b ca)) H0 cells slots Q nL (rx_m (rx_fin D b ca) σ') (pc + 3) lo rest) : rx_X p l e R s m args below meth c (rg_O (rx_fin D b ca)) H0 cells slots Q nL (rx_m (rx_fin D b ca) σ) pc lo (.int x0 :: .ref (rg_A (rx_fin D b ca) (46 + j)) :: rest) :=
  rx_callV C w_Mob_takeData (rx_in t_379 rfl) z_Mob_takeData s_Mob_takeData (rx_in t_4 rfl) (by decide +kernel) rfl hd (rx_lt (by omega)) (rx_E_mob hj _) hM ⟨rfl, rfl⟩ hR hf (n := 1) rfl rfl hW k
theorem q_Mob_69 (C : rx_Cw p s m args meth c R_Mob cc nL ret (rx_fin D b ca)) {j : Nat} (hj : j < 2)  {v : Int32} (hd : decode cc pc = .ok (.invokevirtual 69, 3)) (hM : rx_C l (rx_fin D b ca) y_Mob_endsSoon b_Mob_endsSoon 1 (some .boolean) (rx_rm 0) [.ref (rg_A (rx_fin D b ca) (46 + j))] σ (some (.int v)) σ') (hR : (rx_rm 0).frames + 1 ≤ R.frames ∧ 8 + (1 + 11) + (rx_rm 0).locals ≤ R.locals) (hf : cells ≤ R.cells ∧ slots ≤ R.slots) (hW : (rest.map fun v => v.category).sum ≤ 8)
    (k : rx_X p l e R s m args below meth c (rg_O (rx_fin D b ca)) H0 cells slots Q nL (rx_m (rx_fin D b ca) σ') (pc + 3) lo (.int v :: rest)) : rx_X p l e R s m args below meth c (rg_O (rx_fin D b ca)) H0 cells slots Q nL (rx_m (rx_fin D b ca) σ) pc lo (.ref (rg_A (rx_fin D b ca) (46 + j)) :: rest) :=
  rx_callV C w_Mob_endsSoon (rx_in t_367 rfl) z_Mob_endsSoon s_Mob_endsSoon (rx_in t_4 rfl) (by decide +kernel) rfl hd (rx_lt (by omega)) (rx_E_mob hj _) hM ⟨rfl, rfl⟩ hR hf (n := 0) rfl rfl hW k
theorem q_Mob_73 (C : rx_Cw p s m args meth c R_Mob cc nL ret (rx_fin D b ca)) {j : Nat} (hj : j < 2) {x0 : Int32}  (hd : decode cc pc = .ok (.invokevirtual 73, 3)) (hM : rx_C l (rx_fin D b ca) y_Mob_registerWith b_Mob_registerWith 3 none (rx_rm 3) [.ref (rg_A (rx_fin D b ca) (46 + j)), .int x0] σ none σ') (hR : (rx_rm 3).frames + 1 ≤ R.frames ∧ 8 + (3 + 11) + (rx_rm 3).locals ≤ R.locals) (hf : cells ≤ R.cells ∧ slots ≤ R.slots) (hW : (rest.map fun v => v.category).sum ≤ 8)
    (k : rx_X p l e R s m args below meth c (rg_O (rx_fin D b ca)) H0 cells slots Q nL (rx_m (rx_fin D b ca) σ') (pc + 3) lo rest) : rx_X p l e R s m args below meth c (rg_O (rx_fin D b ca)) H0 cells slots Q nL (rx_m (rx_fin D b ca) σ) pc lo (.int x0 :: .ref (rg_A (rx_fin D b ca) (46 + j)) :: rest) :=
  rx_callV C w_Mob_registerWith (rx_in t_313 rfl) z_Mob_registerWith s_Mob_registerWith (rx_in t_4 rfl) (by decide +kernel) rfl hd (rx_lt (by omega)) (rx_E_mob hj _) hM ⟨rfl, rfl⟩ hR hf (n := 1) rfl rfl hW k
theorem q_Mob_79 (C : rx_Cw p s m args meth c R_Mob cc nL ret (rx_fin D b ca))  {x0 : Int32} {x1 : Int32} {x2 : Int32} {x3 : Int32} {v : Nat} (hd : decode cc pc = .ok (.invokevirtual 79, 3)) (hM : rx_C l (rx_fin D b ca) y_Wire_sendTo b_Wire_sendTo 6 (some (.object "RoamingNet$Message")) (rx_rm 2) [.ref (rg_A (rx_fin D b ca) 1), .int x0, .int x1, .int x2, .int x3] σ (some (.ref (rg_A (rx_fin D b ca) v))) σ') (hq9 : rx_SI σ → 3 ≤ v ∧ v < 45) (hR : (rx_rm 2).frames + 1 ≤ R.frames ∧ 8 + (6 + 11) + (rx_rm 2).locals ≤ R.locals) (hf : cells ≤ R.cells ∧ slots ≤ R.slots) (hW : (rest.map fun v => v.category).sum ≤ 8)
    (k : (3 ≤ v ∧ v < 45) → rx_X p l e R s m args below meth c (rg_O (rx_fin D b ca)) H0 cells slots Q nL (rx_m (rx_fin D b ca) σ') (pc + 3) lo (.ref (rg_A (rx_fin D b ca) v) :: rest)) : rx_X p l e R s m args below meth c (rg_O (rx_fin D b ca)) H0 cells slots Q nL (rx_m (rx_fin D b ca) σ) pc lo (.int x3 :: .int x2 :: .int x1 :: .int x0 :: .ref (rg_A (rx_fin D b ca) 1) :: rest) :=
  rx_si (fun hI9 => rx_callVN C w_Wire_sendTo t_317 z_Wire_sendTo s_Wire_sendTo (rx_in t_2 rfl) (by decide +kernel) rfl hd (rx_lt (by omega)) rfl hM ⟨rfl, rfl⟩ hR hf (n := 4) rfl rfl hW (k (hq9 hI9)))
theorem q_Mob_92 (C : rx_Cw p s m args meth c R_Mob cc nL ret (rx_fin D b ca)) {q : Nat} (hq : 3 ≤ q ∧ q < 45) {x0 : Int32} {v : Int32} (hd : decode cc pc = .ok (.invokevirtual 92, 3)) (hM : rx_C l (rx_fin D b ca) y_Msg_requestSeal b_Msg_requestSeal 3 (some .int) (rx_rm 1) [.ref (rg_A (rx_fin D b ca) q), .int x0] σ (some (.int v)) σ') (hR : (rx_rm 1).frames + 1 ≤ R.frames ∧ 8 + (3 + 11) + (rx_rm 1).locals ≤ R.locals) (hf : cells ≤ R.cells ∧ slots ≤ R.slots) (hW : (rest.map fun v => v.category).sum ≤ 8)
    (k : rx_X p l e R s m args below meth c (rg_O (rx_fin D b ca)) H0 cells slots Q nL (rx_m (rx_fin D b ca) σ') (pc + 3) lo (.int v :: rest)) : rx_X p l e R s m args below meth c (rg_O (rx_fin D b ca)) H0 cells slots Q nL (rx_m (rx_fin D b ca) σ) pc lo (.int x0 :: .ref (rg_A (rx_fin D b ca) q) :: rest) :=
  rx_callVN C w_Msg_requestSeal t_318 z_Msg_requestSeal s_Msg_requestSeal (rx_in t_3 rfl) (by decide +kernel) rfl hd (rx_lt (by omega)) (rx_E_msg hq _) hM ⟨rfl, rfl⟩ hR hf (n := 1) rfl rfl hW k
theorem q_Mob_105 (C : rx_Cw p s m args meth c R_Mob cc nL ret (rx_fin D b ca)) {q : Nat} (hq : 3 ≤ q ∧ q < 45) {x0 : Int32} {v : Int32} (hd : decode cc pc = .ok (.invokevirtual 105, 3)) (hM : rx_C l (rx_fin D b ca) y_Msg_replySeal b_Msg_replySeal 3 (some .int) (rx_rm 1) [.ref (rg_A (rx_fin D b ca) q), .int x0] σ (some (.int v)) σ') (hR : (rx_rm 1).frames + 1 ≤ R.frames ∧ 8 + (3 + 11) + (rx_rm 1).locals ≤ R.locals) (hf : cells ≤ R.cells ∧ slots ≤ R.slots) (hW : (rest.map fun v => v.category).sum ≤ 8)
    (k : rx_X p l e R s m args below meth c (rg_O (rx_fin D b ca)) H0 cells slots Q nL (rx_m (rx_fin D b ca) σ') (pc + 3) lo (.int v :: rest)) : rx_X p l e R s m args below meth c (rg_O (rx_fin D b ca)) H0 cells slots Q nL (rx_m (rx_fin D b ca) σ) pc lo (.int x0 :: .ref (rg_A (rx_fin D b ca) q) :: rest) :=
  rx_callVN C w_Msg_replySeal t_375 z_Msg_replySeal s_Msg_replySeal (rx_in t_3 rfl) (by decide +kernel) rfl hd (rx_lt (by omega)) (rx_E_msg hq _) hM ⟨rfl, rfl⟩ hR hf (n := 1) rfl rfl hW k
theorem q_Msg_41 {O : Nat → Prop} {Φ : Heap → Prop} (C : rx_Cx p s m args meth c R_Msg cc nL ret) {x0 : Int32} {x1 : Int32} {v : Int32} (hd : decode cc pc = .ok (.invokestatic 41, 3)) (hM : rx_S l y_Msg_stir b_Msg_stir 3 (some .int) (rx_rm 0) [.int x0, .int x1] (.int v)) (hR : (rx_rm 0).frames + 1 ≤ R.frames ∧ 8 + (3 + 11) + (rx_rm 0).locals ≤ R.locals) (hf : cells ≤ R.cells ∧ slots ≤ R.slots) (hW : (rest.map fun v => v.category).sum ≤ 8)
    (k : rx_X p l e R s m args below meth c O H0 cells slots Q nL Φ (pc + 3) lo (.int v :: rest)) : rx_X p l e R s m args below meth c O H0 cells slots Q nL Φ pc lo (.int x1 :: .int x0 :: rest) :=
  rx_callS C w_Msg_stir (rx_in t_322 rfl) z_Msg_stir (rx_in t_3 rfl) (by decide +kernel) hd hM ⟨rfl, rfl⟩ hR hf (n := 2) rfl rfl hW k
theorem q_Net_11 {O : Nat → Prop} {Φ : Heap → Prop} (C : rx_Cx p s m args meth c R_Net cc nL ret) {x0 : Int32} {x1 : Int32} {x2 : Int32} {v : Int32} (hd : decode cc pc = .ok (.invokestatic 11, 3)) (hM : rx_S l y_Net_isWithin b_Net_isWithin 3 (some .boolean) (rx_rm 0) [.int x0, .int x1, .int x2] (.int v)) (hR : (rx_rm 0).frames + 1 ≤ R.frames ∧ 8 + (3 + 11) + (rx_rm 0).locals ≤ R.locals) (hf : cells ≤ R.cells ∧ slots ≤ R.slots) (hW : (rest.map fun v => v.category).sum ≤ 8)
    (k : rx_X p l e R s m args below meth c O H0 cells slots Q nL Φ (pc + 3) lo (.int v :: rest)) : rx_X p l e R s m args below meth c O H0 cells slots Q nL Φ pc lo (.int x2 :: .int x1 :: .int x0 :: rest) :=
  rx_callS C w_Net_isWithin (rx_in t_18 rfl) z_Net_isWithin (rx_in t_1 rfl) (by decide +kernel) hd hM ⟨rfl, rfl⟩ hR hf (n := 3) rfl rfl hW k
theorem q_Net_63 {O : Nat → Prop} {Φ : Heap → Prop} (C : rx_Cx p s m args meth c R_Net cc nL ret) {x0 : Int32} {v : Int32} (hd : decode cc pc = .ok (.invokestatic 63, 3)) (hM : rx_S l y_Net_isMobile b_Net_isMobile 1 (some .boolean) (rx_rm 1) [.int x0] (.int v)) (hR : (rx_rm 1).frames + 1 ≤ R.frames ∧ 8 + (1 + 11) + (rx_rm 1).locals ≤ R.locals) (hf : cells ≤ R.cells ∧ slots ≤ R.slots) (hW : (rest.map fun v => v.category).sum ≤ 8)
    (k : rx_X p l e R s m args below meth c O H0 cells slots Q nL Φ (pc + 3) lo (.int v :: rest)) : rx_X p l e R s m args below meth c O H0 cells slots Q nL Φ pc lo (.int x0 :: rest) :=
  rx_callS C w_Net_isMobile (rx_in t_270 rfl) z_Net_isMobile (rx_in t_1 rfl) (by decide +kernel) hd hM ⟨rfl, rfl⟩ hR hf (n := 1) rfl rfl hW k
theorem q_Net_78 (C : rx_Cw p s m args meth c R_Net cc nL ret (rx_fin D b ca))    (hd : decode cc pc = .ok (.invokevirtual 78, 3)) (hM : rx_C l (rx_fin D b ca) y_Net_passOneTick b_Net_passOneTick 2 none (rx_rm 5) [.ref (rg_A (rx_fin D b ca) 0)] σ none σ') (hR : (rx_rm 5).frames + 1 ≤ R.frames ∧ 8 + (2 + 11) + (rx_rm 5).locals ≤ R.locals) (hf : cells ≤ R.cells ∧ slots ≤ R.slots) (hW : (rest.map fun v => v.category).sum ≤ 8)
    (k : rx_X p l e R s m args below meth c (rg_O (rx_fin D b ca)) H0 cells slots Q nL (rx_m (rx_fin D b ca) σ') (pc + 3) lo rest) : rx_X p l e R s m args below meth c (rg_O (rx_fin D b ca)) H0 cells slots Q nL (rx_m (rx_fin D b ca) σ) pc lo (.ref (rg_A (rx_fin D b ca) 0) :: rest) :=
  rx_callV C w_Net_passOneTick (rx_in t_281 rfl) z_Net_passOneTick s_Net_passOneTick (rx_in t_1 rfl) (by decide +kernel) rfl hd (rx_lt (by omega)) rfl hM ⟨rfl, rfl⟩ hR hf (n := 0) rfl rfl hW k
theorem q_Net_84 (C : rx_Cw p s m args meth c R_Net cc nL ret (rx_fin D b ca))  {x0 : Int32}  (hd : decode cc pc = .ok (.invokevirtual 84, 3)) (hM : rx_C l (rx_fin D b ca) y_Corr_pump b_Corr_pump 2 none (rx_rm 3) [.ref (rg_A (rx_fin D b ca) 66), .int x0] σ none σ') (hR : (rx_rm 3).frames + 1 ≤ R.frames ∧ 8 + (2 + 11) + (rx_rm 3).locals ≤ R.locals) (hf : cells ≤ R.cells ∧ slots ≤ R.slots) (hW : (rest.map fun v => v.category).sum ≤ 8)
    (k : rx_X p l e R s m args below meth c (rg_O (rx_fin D b ca)) H0 cells slots Q nL (rx_m (rx_fin D b ca) σ') (pc + 3) lo rest) : rx_X p l e R s m args below meth c (rg_O (rx_fin D b ca)) H0 cells slots Q nL (rx_m (rx_fin D b ca) σ) pc lo (.int x0 :: .ref (rg_A (rx_fin D b ca) 66) :: rest) :=
  rx_callVN C w_Corr_pump t_335 z_Corr_pump s_Corr_pump (rx_in t_7 rfl) (by decide +kernel) rfl hd (rx_lt (by omega)) rfl hM ⟨rfl, rfl⟩ hR hf (n := 1) rfl rfl hW k
theorem q_Net_88 (C : rx_Cw p s m args meth c R_Net cc nL ret (rx_fin D b ca))  {x0 : Int32} {v : Int32} (hd : decode cc pc = .ok (.invokevirtual 88, 3)) (hM : rx_C l (rx_fin D b ca) y_Wire_holds b_Wire_holds 2 (some .boolean) (rx_rm 0) [.ref (rg_A (rx_fin D b ca) 1), .int x0] σ (some (.int v)) σ') (hR : (rx_rm 0).frames + 1 ≤ R.frames ∧ 8 + (2 + 11) + (rx_rm 0).locals ≤ R.locals) (hf : cells ≤ R.cells ∧ slots ≤ R.slots) (hW : (rest.map fun v => v.category).sum ≤ 8)
    (k : rx_X p l e R s m args below meth c (rg_O (rx_fin D b ca)) H0 cells slots Q nL (rx_m (rx_fin D b ca) σ') (pc + 3) lo (.int v :: rest)) : rx_X p l e R s m args below meth c (rg_O (rx_fin D b ca)) H0 cells slots Q nL (rx_m (rx_fin D b ca) σ) pc lo (.int x0 :: .ref (rg_A (rx_fin D b ca) 1) :: rest) :=
  rx_callVN C w_Wire_holds t_343 z_Wire_holds s_Wire_holds (rx_in t_2 rfl) (by decide +kernel) rfl hd (rx_lt (by omega)) rfl hM ⟨rfl, rfl⟩ hR hf (n := 1) rfl rfl hW k
theorem q_Net_95 (C : rx_Cw p s m args meth c R_Net cc nL ret (rx_fin D b ca)) {q : Nat} (hq : 3 ≤ q ∧ q < 45) {x0 : Nat}  (hd : decode cc pc = .ok (.invokevirtual 95, 3)) (hM : rx_C l (rx_fin D b ca) y_Msg_copyFrom b_Msg_copyFrom 2 none (rx_rm 0) [.ref (rg_A (rx_fin D b ca) q), .ref (rg_A (rx_fin D b ca) x0)] σ none σ') (hR : (rx_rm 0).frames + 1 ≤ R.frames ∧ 8 + (2 + 11) + (rx_rm 0).locals ≤ R.locals) (hf : cells ≤ R.cells ∧ slots ≤ R.slots) (hW : (rest.map fun v => v.category).sum ≤ 8)
    (k : rx_X p l e R s m args below meth c (rg_O (rx_fin D b ca)) H0 cells slots Q nL (rx_m (rx_fin D b ca) σ') (pc + 3) lo rest) : rx_X p l e R s m args below meth c (rg_O (rx_fin D b ca)) H0 cells slots Q nL (rx_m (rx_fin D b ca) σ) pc lo (.ref (rg_A (rx_fin D b ca) x0) :: .ref (rg_A (rx_fin D b ca) q) :: rest) :=
  rx_callVN C w_Msg_copyFrom t_347 z_Msg_copyFrom s_Msg_copyFrom (rx_in t_3 rfl) (by decide +kernel) rfl hd (rx_lt (by omega)) (rx_E_msg hq _) hM ⟨rfl, rfl⟩ hR hf (n := 1) rfl rfl hW k
theorem q_Net_99 (C : rx_Cw p s m args meth c R_Net cc nL ret (rx_fin D b ca))  {x0 : Int32}  (hd : decode cc pc = .ok (.invokevirtual 99, 3)) (hM : rx_C l (rx_fin D b ca) y_Wire_remove b_Wire_remove 4 none (rx_rm 0) [.ref (rg_A (rx_fin D b ca) 1), .int x0] σ none σ') (hR : (rx_rm 0).frames + 1 ≤ R.frames ∧ 8 + (4 + 11) + (rx_rm 0).locals ≤ R.locals) (hf : cells ≤ R.cells ∧ slots ≤ R.slots) (hW : (rest.map fun v => v.category).sum ≤ 8)
    (k : rx_X p l e R s m args below meth c (rg_O (rx_fin D b ca)) H0 cells slots Q nL (rx_m (rx_fin D b ca) σ') (pc + 3) lo rest) : rx_X p l e R s m args below meth c (rg_O (rx_fin D b ca)) H0 cells slots Q nL (rx_m (rx_fin D b ca) σ) pc lo (.int x0 :: .ref (rg_A (rx_fin D b ca) 1) :: rest) :=
  rx_callVN C w_Wire_remove t_351 z_Wire_remove s_Wire_remove (rx_in t_2 rfl) (by decide +kernel) rfl hd (rx_lt (by omega)) rfl hM ⟨rfl, rfl⟩ hR hf (n := 1) rfl rfl hW k
theorem q_Net_102 (C : rx_Cw p s m args meth c R_Net cc nL ret (rx_fin D b ca))  {x0 : Nat}  (hd : decode cc pc = .ok (.invokevirtual 102, 3)) (hM : rx_C l (rx_fin D b ca) y_Net_handOver b_Net_handOver 2 none (rx_rm 6) [.ref (rg_A (rx_fin D b ca) 0), .ref (rg_A (rx_fin D b ca) x0)] σ none σ') (hR : (rx_rm 6).frames + 1 ≤ R.frames ∧ 8 + (2 + 11) + (rx_rm 6).locals ≤ R.locals) (hf : cells ≤ R.cells ∧ slots ≤ R.slots) (hW : (rest.map fun v => v.category).sum ≤ 8)
    (k : rx_X p l e R s m args below meth c (rg_O (rx_fin D b ca)) H0 cells slots Q nL (rx_m (rx_fin D b ca) σ') (pc + 3) lo rest) : rx_X p l e R s m args below meth c (rg_O (rx_fin D b ca)) H0 cells slots Q nL (rx_m (rx_fin D b ca) σ) pc lo (.ref (rg_A (rx_fin D b ca) x0) :: .ref (rg_A (rx_fin D b ca) 0) :: rest) :=
  rx_callV C w_Net_handOver (rx_in t_355 rfl) z_Net_handOver s_Net_handOver (rx_in t_1 rfl) (by decide +kernel) rfl hd (rx_lt (by omega)) rfl hM ⟨rfl, rfl⟩ hR hf (n := 1) rfl rfl hW k
theorem q_Net_105 (C : rx_Cw p s m args meth c R_Net cc nL ret (rx_fin D b ca))   {v : Int32} (hd : decode cc pc = .ok (.invokevirtual 105, 3)) (hM : rx_C l (rx_fin D b ca) y_Wire_isFull b_Wire_isFull 1 (some .boolean) (rx_rm 0) [.ref (rg_A (rx_fin D b ca) 1)] σ (some (.int v)) σ') (hR : (rx_rm 0).frames + 1 ≤ R.frames ∧ 8 + (1 + 11) + (rx_rm 0).locals ≤ R.locals) (hf : cells ≤ R.cells ∧ slots ≤ R.slots) (hW : (rest.map fun v => v.category).sum ≤ 8)
    (k : rx_X p l e R s m args below meth c (rg_O (rx_fin D b ca)) H0 cells slots Q nL (rx_m (rx_fin D b ca) σ') (pc + 3) lo (.int v :: rest)) : rx_X p l e R s m args below meth c (rg_O (rx_fin D b ca)) H0 cells slots Q nL (rx_m (rx_fin D b ca) σ) pc lo (.ref (rg_A (rx_fin D b ca) 1) :: rest) :=
  rx_callVN C w_Wire_isFull t_461 z_Wire_isFull s_Wire_isFull (rx_in t_2 rfl) (by decide +kernel) rfl hd (rx_lt (by omega)) rfl hM ⟨rfl, rfl⟩ hR hf (n := 0) rfl rfl hW k
theorem q_Net_109 (C : rx_Cw p s m args meth c R_Net cc nL ret (rx_fin D b ca))   {v : Nat} (hd : decode cc pc = .ok (.invokevirtual 109, 3)) (hM : rx_C l (rx_fin D b ca) y_Wire_nextRow b_Wire_nextRow 1 (some (.object "RoamingNet$Message")) (rx_rm 1) [.ref (rg_A (rx_fin D b ca) 1)] σ (some (.ref (rg_A (rx_fin D b ca) v))) σ') (hq9 : rx_SI σ → 3 ≤ v ∧ v < 45) (hR : (rx_rm 1).frames + 1 ≤ R.frames ∧ 8 + (1 + 11) + (rx_rm 1).locals ≤ R.locals) (hf : cells ≤ R.cells ∧ slots ≤ R.slots) (hW : (rest.map fun v => v.category).sum ≤ 8)
    (k : (3 ≤ v ∧ v < 45) → rx_X p l e R s m args below meth c (rg_O (rx_fin D b ca)) H0 cells slots Q nL (rx_m (rx_fin D b ca) σ') (pc + 3) lo (.ref (rg_A (rx_fin D b ca) v) :: rest)) : rx_X p l e R s m args below meth c (rg_O (rx_fin D b ca)) H0 cells slots Q nL (rx_m (rx_fin D b ca) σ) pc lo (.ref (rg_A (rx_fin D b ca) 1) :: rest) :=
  rx_si (fun hI9 => rx_callVN C w_Wire_nextRow t_462 z_Wire_nextRow s_Wire_nextRow (rx_in t_2 rfl) (by decide +kernel) rfl hd (rx_lt (by omega)) rfl hM ⟨rfl, rfl⟩ hR hf (n := 0) rfl rfl hW (k (hq9 hI9)))
theorem q_Net_113 {O : Nat → Prop} {Φ : Heap → Prop} (C : rx_Cx p s m args meth c R_Net cc nL ret) {x0 : Int32} {v : Int32} (hd : decode cc pc = .ok (.invokestatic 113, 3)) (hM : rx_S l y_Net_isAgent b_Net_isAgent 1 (some .boolean) (rx_rm 1) [.int x0] (.int v)) (hR : (rx_rm 1).frames + 1 ≤ R.frames ∧ 8 + (1 + 11) + (rx_rm 1).locals ≤ R.locals) (hf : cells ≤ R.cells ∧ slots ≤ R.slots) (hW : (rest.map fun v => v.category).sum ≤ 8)
    (k : rx_X p l e R s m args below meth c O H0 cells slots Q nL Φ (pc + 3) lo (.int v :: rest)) : rx_X p l e R s m args below meth c O H0 cells slots Q nL Φ pc lo (.int x0 :: rest) :=
  rx_callS C w_Net_isAgent (rx_in t_467 rfl) z_Net_isAgent (rx_in t_1 rfl) (by decide +kernel) hd hM ⟨rfl, rfl⟩ hR hf (n := 1) rfl rfl hW k
theorem q_Net_116 (C : rx_Cw p s m args meth c R_Net cc nL ret (rx_fin D b ca))  {x0 : Int32} {x1 : Int32} {x2 : Int32} {x3 : Int32} {v : Nat} (hd : decode cc pc = .ok (.invokevirtual 116, 3)) (hM : rx_C l (rx_fin D b ca) y_Wire_sendTo b_Wire_sendTo 6 (some (.object "RoamingNet$Message")) (rx_rm 2) [.ref (rg_A (rx_fin D b ca) 1), .int x0, .int x1, .int x2, .int x3] σ (some (.ref (rg_A (rx_fin D b ca) v))) σ') (hq9 : rx_SI σ → 3 ≤ v ∧ v < 45) (hR : (rx_rm 2).frames + 1 ≤ R.frames ∧ 8 + (6 + 11) + (rx_rm 2).locals ≤ R.locals) (hf : cells ≤ R.cells ∧ slots ≤ R.slots) (hW : (rest.map fun v => v.category).sum ≤ 8)
    (k : (3 ≤ v ∧ v < 45) → rx_X p l e R s m args below meth c (rg_O (rx_fin D b ca)) H0 cells slots Q nL (rx_m (rx_fin D b ca) σ') (pc + 3) lo (.ref (rg_A (rx_fin D b ca) v) :: rest)) : rx_X p l e R s m args below meth c (rg_O (rx_fin D b ca)) H0 cells slots Q nL (rx_m (rx_fin D b ca) σ) pc lo (.int x3 :: .int x2 :: .int x1 :: .int x0 :: .ref (rg_A (rx_fin D b ca) 1) :: rest) :=
  rx_si (fun hI9 => rx_callVN C w_Wire_sendTo t_470 z_Wire_sendTo s_Wire_sendTo (rx_in t_2 rfl) (by decide +kernel) rfl hd (rx_lt (by omega)) rfl hM ⟨rfl, rfl⟩ hR hf (n := 4) rfl rfl hW (k (hq9 hI9)))
theorem q_Net_132 (C : rx_Cw p s m args meth c R_Net cc nL ret (rx_fin D b ca)) {q : Nat} (hq : 3 ≤ q ∧ q < 45)  {v : Int32} (hd : decode cc pc = .ok (.invokevirtual 132, 3)) (hM : rx_C l (rx_fin D b ca) y_Msg_summary b_Msg_summary 1 (some .int) (rx_rm 0) [.ref (rg_A (rx_fin D b ca) q)] σ (some (.int v)) σ') (hR : (rx_rm 0).frames + 1 ≤ R.frames ∧ 8 + (1 + 11) + (rx_rm 0).locals ≤ R.locals) (hf : cells ≤ R.cells ∧ slots ≤ R.slots) (hW : (rest.map fun v => v.category).sum ≤ 8)
    (k : rx_X p l e R s m args below meth c (rg_O (rx_fin D b ca)) H0 cells slots Q nL (rx_m (rx_fin D b ca) σ') (pc + 3) lo (.int v :: rest)) : rx_X p l e R s m args below meth c (rg_O (rx_fin D b ca)) H0 cells slots Q nL (rx_m (rx_fin D b ca) σ) pc lo (.ref (rg_A (rx_fin D b ca) q) :: rest) :=
  rx_callVN C w_Msg_summary t_479 z_Msg_summary s_Msg_summary (rx_in t_3 rfl) (by decide +kernel) rfl hd (rx_lt (by omega)) (rx_E_msg hq _) hM ⟨rfl, rfl⟩ hR hf (n := 0) rfl rfl hW k
theorem q_Net_142 (C : rx_Cw p s m args meth c R_Net cc nL ret (rx_fin D b ca))  {x0 : Int32} {v : Int32} (hd : decode cc pc = .ok (.invokevirtual 142, 3)) (hM : rx_C l (rx_fin D b ca) y_Home_isBound b_Home_isBound 2 (some .boolean) (rx_rm 0) [.ref (rg_A (rx_fin D b ca) 48), .int x0] σ (some (.int v)) σ') (hR : (rx_rm 0).frames + 1 ≤ R.frames ∧ 8 + (2 + 11) + (rx_rm 0).locals ≤ R.locals) (hf : cells ≤ R.cells ∧ slots ≤ R.slots) (hW : (rest.map fun v => v.category).sum ≤ 8)
    (k : rx_X p l e R s m args below meth c (rg_O (rx_fin D b ca)) H0 cells slots Q nL (rx_m (rx_fin D b ca) σ') (pc + 3) lo (.int v :: rest)) : rx_X p l e R s m args below meth c (rg_O (rx_fin D b ca)) H0 cells slots Q nL (rx_m (rx_fin D b ca) σ) pc lo (.int x0 :: .ref (rg_A (rx_fin D b ca) 48) :: rest) :=
  rx_callVN C w_Home_isBound t_501 z_Home_isBound s_Home_isBound (rx_in t_5 rfl) (by decide +kernel) rfl hd (rx_lt (by omega)) rfl hM ⟨rfl, rfl⟩ hR hf (n := 1) rfl rfl hW k
theorem q_Net_153 (C : rx_Cw p s m args meth c R_Net cc nL ret (rx_fin D b ca)) {a : Nat} (ha : a < 3) {x0 : Int32} {v : Int32} (hd : decode cc pc = .ok (.invokevirtual 153, 3)) (hM : rx_C l (rx_fin D b ca) y_Fa_isVisited b_Fa_isVisited 2 (some .boolean) (rx_rm 0) [.ref (rg_A (rx_fin D b ca) (54 + 4 * a)), .int x0] σ (some (.int v)) σ') (hR : (rx_rm 0).frames + 1 ≤ R.frames ∧ 8 + (2 + 11) + (rx_rm 0).locals ≤ R.locals) (hf : cells ≤ R.cells ∧ slots ≤ R.slots) (hW : (rest.map fun v => v.category).sum ≤ 8)
    (k : rx_X p l e R s m args below meth c (rg_O (rx_fin D b ca)) H0 cells slots Q nL (rx_m (rx_fin D b ca) σ') (pc + 3) lo (.int v :: rest)) : rx_X p l e R s m args below meth c (rg_O (rx_fin D b ca)) H0 cells slots Q nL (rx_m (rx_fin D b ca) σ) pc lo (.int x0 :: .ref (rg_A (rx_fin D b ca) (54 + 4 * a)) :: rest) :=
  rx_callVN C w_Fa_isVisited t_506 z_Fa_isVisited s_Fa_isVisited (rx_in t_6 rfl) (by decide +kernel) rfl hd (rx_lt (by omega)) (rx_E_fa ha _) hM ⟨rfl, rfl⟩ hR hf (n := 1) rfl rfl hW k
theorem q_Net_168 (C : rx_Cw p s m args meth c R_Net cc nL ret (rx_fin D b ca))  {x0 : Int32}  (hd : decode cc pc = .ok (.invokevirtual 168, 3)) (hM : rx_C l (rx_fin D b ca) y_Net_advertise b_Net_advertise 3 none (rx_rm 4) [.ref (rg_A (rx_fin D b ca) 0), .int x0] σ none σ') (hR : (rx_rm 4).frames + 1 ≤ R.frames ∧ 8 + (3 + 11) + (rx_rm 4).locals ≤ R.locals) (hf : cells ≤ R.cells ∧ slots ≤ R.slots) (hW : (rest.map fun v => v.category).sum ≤ 8)
    (k : rx_X p l e R s m args below meth c (rg_O (rx_fin D b ca)) H0 cells slots Q nL (rx_m (rx_fin D b ca) σ') (pc + 3) lo rest) : rx_X p l e R s m args below meth c (rg_O (rx_fin D b ca)) H0 cells slots Q nL (rx_m (rx_fin D b ca) σ) pc lo (.int x0 :: .ref (rg_A (rx_fin D b ca) 0) :: rest) :=
  rx_callV C w_Net_advertise (rx_in t_285 rfl) z_Net_advertise s_Net_advertise (rx_in t_1 rfl) (by decide +kernel) rfl hd (rx_lt (by omega)) rfl hM ⟨rfl, rfl⟩ hR hf (n := 1) rfl rfl hW k
theorem q_Net_171 (C : rx_Cw p s m args meth c R_Net cc nL ret (rx_fin D b ca)) {j : Nat} (hj : j < 2)   (hd : decode cc pc = .ok (.invokevirtual 171, 3)) (hM : rx_C l (rx_fin D b ca) y_Mob_notice b_Mob_notice 1 none (rx_rm 4) [.ref (rg_A (rx_fin D b ca) (46 + j))] σ none σ') (hR : (rx_rm 4).frames + 1 ≤ R.frames ∧ 8 + (1 + 11) + (rx_rm 4).locals ≤ R.locals) (hf : cells ≤ R.cells ∧ slots ≤ R.slots) (hW : (rest.map fun v => v.category).sum ≤ 8)
    (k : rx_X p l e R s m args below meth c (rg_O (rx_fin D b ca)) H0 cells slots Q nL (rx_m (rx_fin D b ca) σ') (pc + 3) lo rest) : rx_X p l e R s m args below meth c (rg_O (rx_fin D b ca)) H0 cells slots Q nL (rx_m (rx_fin D b ca) σ) pc lo (.ref (rg_A (rx_fin D b ca) (46 + j)) :: rest) :=
  rx_callVN C w_Mob_notice t_309 z_Mob_notice s_Mob_notice (rx_in t_4 rfl) (by decide +kernel) rfl hd (rx_lt (by omega)) (rx_E_mob hj _) hM ⟨rfl, rfl⟩ hR hf (n := 0) rfl rfl hW k
theorem q_Net_174 (C : rx_Cw p s m args meth c R_Net cc nL ret (rx_fin D b ca))  {x0 : Int32}  (hd : decode cc pc = .ok (.invokevirtual 174, 3)) (hM : rx_C l (rx_fin D b ca) y_Corr_resendIfDue b_Corr_resendIfDue 3 none (rx_rm 3) [.ref (rg_A (rx_fin D b ca) 66), .int x0] σ none σ') (hR : (rx_rm 3).frames + 1 ≤ R.frames ∧ 8 + (3 + 11) + (rx_rm 3).locals ≤ R.locals) (hf : cells ≤ R.cells ∧ slots ≤ R.slots) (hW : (rest.map fun v => v.category).sum ≤ 8)
    (k : rx_X p l e R s m args below meth c (rg_O (rx_fin D b ca)) H0 cells slots Q nL (rx_m (rx_fin D b ca) σ') (pc + 3) lo rest) : rx_X p l e R s m args below meth c (rg_O (rx_fin D b ca)) H0 cells slots Q nL (rx_m (rx_fin D b ca) σ) pc lo (.int x0 :: .ref (rg_A (rx_fin D b ca) 66) :: rest) :=
  rx_callVN C w_Corr_resendIfDue t_326 z_Corr_resendIfDue s_Corr_resendIfDue (rx_in t_7 rfl) (by decide +kernel) rfl hd (rx_lt (by omega)) rfl hM ⟨rfl, rfl⟩ hR hf (n := 1) rfl rfl hW k
theorem q_Net_177 (C : rx_Cw p s m args meth c R_Net cc nL ret (rx_fin D b ca))  {x0 : Int32} {x1 : Int32} {x2 : Int32} {x3 : Int32} {v : Nat} (hd : decode cc pc = .ok (.invokevirtual 177, 3)) (hM : rx_C l (rx_fin D b ca) y_Wire_sendInNetwork b_Wire_sendInNetwork 6 (some (.object "RoamingNet$Message")) (rx_rm 3) [.ref (rg_A (rx_fin D b ca) 1), .int x0, .int x1, .int x2, .int x3] σ (some (.ref (rg_A (rx_fin D b ca) v))) σ') (hq9 : rx_SI σ → 3 ≤ v ∧ v < 45) (hR : (rx_rm 3).frames + 1 ≤ R.frames ∧ 8 + (6 + 11) + (rx_rm 3).locals ≤ R.locals) (hf : cells ≤ R.cells ∧ slots ≤ R.slots) (hW : (rest.map fun v => v.category).sum ≤ 8)
    (k : (3 ≤ v ∧ v < 45) → rx_X p l e R s m args below meth c (rg_O (rx_fin D b ca)) H0 cells slots Q nL (rx_m (rx_fin D b ca) σ') (pc + 3) lo (.ref (rg_A (rx_fin D b ca) v) :: rest)) : rx_X p l e R s m args below meth c (rg_O (rx_fin D b ca)) H0 cells slots Q nL (rx_m (rx_fin D b ca) σ) pc lo (.int x3 :: .int x2 :: .int x1 :: .int x0 :: .ref (rg_A (rx_fin D b ca) 1) :: rest) :=
  rx_si (fun hI9 => rx_callVN C w_Wire_sendInNetwork t_289 z_Wire_sendInNetwork s_Wire_sendInNetwork (rx_in t_2 rfl) (by decide +kernel) rfl hd (rx_lt (by omega)) rfl hM ⟨rfl, rfl⟩ hR hf (n := 4) rfl rfl hW (k (hq9 hI9)))
theorem q_Net_186 (C : rx_Cw p s m args meth c R_Net cc nL ret (rx_fin D b ca)) {j : Nat} (hj : j < 2) {x0 : Nat}  (hd : decode cc pc = .ok (.invokevirtual 186, 3)) (hM : rx_C l (rx_fin D b ca) y_Mob_receive b_Mob_receive 2 none (rx_rm 5) [.ref (rg_A (rx_fin D b ca) (46 + j)), .ref (rg_A (rx_fin D b ca) x0)] σ none σ') (hR : (rx_rm 5).frames + 1 ≤ R.frames ∧ 8 + (2 + 11) + (rx_rm 5).locals ≤ R.locals) (hf : cells ≤ R.cells ∧ slots ≤ R.slots) (hW : (rest.map fun v => v.category).sum ≤ 8)
    (k : rx_X p l e R s m args below meth c (rg_O (rx_fin D b ca)) H0 cells slots Q nL (rx_m (rx_fin D b ca) σ') (pc + 3) lo rest) : rx_X p l e R s m args below meth c (rg_O (rx_fin D b ca)) H0 cells slots Q nL (rx_m (rx_fin D b ca) σ) pc lo (.ref (rg_A (rx_fin D b ca) x0) :: .ref (rg_A (rx_fin D b ca) (46 + j)) :: rest) :=
  rx_callVN C w_Mob_receive t_359 z_Mob_receive s_Mob_receive (rx_in t_4 rfl) (by decide +kernel) rfl hd (rx_lt (by omega)) (rx_E_mob hj _) hM ⟨rfl, rfl⟩ hR hf (n := 1) rfl rfl hW k
theorem q_Net_189 (C : rx_Cw p s m args meth c R_Net cc nL ret (rx_fin D b ca))  {x0 : Nat}  (hd : decode cc pc = .ok (.invokevirtual 189, 3)) (hM : rx_C l (rx_fin D b ca) y_Corr_receive b_Corr_receive 3 none (rx_rm 4) [.ref (rg_A (rx_fin D b ca) 66), .ref (rg_A (rx_fin D b ca) x0)] σ none σ') (hR : (rx_rm 4).frames + 1 ≤ R.frames ∧ 8 + (3 + 11) + (rx_rm 4).locals ≤ R.locals) (hf : cells ≤ R.cells ∧ slots ≤ R.slots) (hW : (rest.map fun v => v.category).sum ≤ 8)
    (k : rx_X p l e R s m args below meth c (rg_O (rx_fin D b ca)) H0 cells slots Q nL (rx_m (rx_fin D b ca) σ') (pc + 3) lo rest) : rx_X p l e R s m args below meth c (rg_O (rx_fin D b ca)) H0 cells slots Q nL (rx_m (rx_fin D b ca) σ) pc lo (.ref (rg_A (rx_fin D b ca) x0) :: .ref (rg_A (rx_fin D b ca) 66) :: rest) :=
  rx_callVN C w_Corr_receive t_383 z_Corr_receive s_Corr_receive (rx_in t_7 rfl) (by decide +kernel) rfl hd (rx_lt (by omega)) rfl hM ⟨rfl, rfl⟩ hR hf (n := 1) rfl rfl hW k
theorem q_Net_190 (C : rx_Cw p s m args meth c R_Net cc nL ret (rx_fin D b ca))  {x0 : Nat}  (hd : decode cc pc = .ok (.invokevirtual 190, 3)) (hM : rx_C l (rx_fin D b ca) y_Home_receive b_Home_receive 2 none (rx_rm 5) [.ref (rg_A (rx_fin D b ca) 48), .ref (rg_A (rx_fin D b ca) x0)] σ none σ') (hR : (rx_rm 5).frames + 1 ≤ R.frames ∧ 8 + (2 + 11) + (rx_rm 5).locals ≤ R.locals) (hf : cells ≤ R.cells ∧ slots ≤ R.slots) (hW : (rest.map fun v => v.category).sum ≤ 8)
    (k : rx_X p l e R s m args below meth c (rg_O (rx_fin D b ca)) H0 cells slots Q nL (rx_m (rx_fin D b ca) σ') (pc + 3) lo rest) : rx_X p l e R s m args below meth c (rg_O (rx_fin D b ca)) H0 cells slots Q nL (rx_m (rx_fin D b ca) σ) pc lo (.ref (rg_A (rx_fin D b ca) x0) :: .ref (rg_A (rx_fin D b ca) 48) :: rest) :=
  rx_callVN C w_Home_receive t_388 z_Home_receive s_Home_receive (rx_in t_5 rfl) (by decide +kernel) rfl hd (rx_lt (by omega)) rfl hM ⟨rfl, rfl⟩ hR hf (n := 1) rfl rfl hW k
theorem q_Net_191 (C : rx_Cw p s m args meth c R_Net cc nL ret (rx_fin D b ca)) {a : Nat} (ha : a < 3) {x0 : Nat}  (hd : decode cc pc = .ok (.invokevirtual 191, 3)) (hM : rx_C l (rx_fin D b ca) y_Fa_receive b_Fa_receive 2 none (rx_rm 5) [.ref (rg_A (rx_fin D b ca) (54 + 4 * a)), .ref (rg_A (rx_fin D b ca) x0)] σ none σ') (hR : (rx_rm 5).frames + 1 ≤ R.frames ∧ 8 + (2 + 11) + (rx_rm 5).locals ≤ R.locals) (hf : cells ≤ R.cells ∧ slots ≤ R.slots) (hW : (rest.map fun v => v.category).sum ≤ 8)
    (k : rx_X p l e R s m args below meth c (rg_O (rx_fin D b ca)) H0 cells slots Q nL (rx_m (rx_fin D b ca) σ') (pc + 3) lo rest) : rx_X p l e R s m args below meth c (rg_O (rx_fin D b ca)) H0 cells slots Q nL (rx_m (rx_fin D b ca) σ) pc lo (.ref (rg_A (rx_fin D b ca) x0) :: .ref (rg_A (rx_fin D b ca) (54 + 4 * a)) :: rest) :=
  rx_callVN C w_Fa_receive t_415 z_Fa_receive s_Fa_receive (rx_in t_6 rfl) (by decide +kernel) rfl hd (rx_lt (by omega)) (rx_E_fa ha _) hM ⟨rfl, rfl⟩ hR hf (n := 1) rfl rfl hW k
theorem q_Wire_22 (C : rx_Cw p s m args meth c R_Wire cc nL ret (rx_fin D b ca))   {v : Int32} (hd : decode cc pc = .ok (.invokevirtual 22, 3)) (hM : rx_C l (rx_fin D b ca) y_Wire_isFull b_Wire_isFull 1 (some .boolean) (rx_rm 0) [.ref (rg_A (rx_fin D b ca) 1)] σ (some (.int v)) σ') (hR : (rx_rm 0).frames + 1 ≤ R.frames ∧ 8 + (1 + 11) + (rx_rm 0).locals ≤ R.locals) (hf : cells ≤ R.cells ∧ slots ≤ R.slots) (hW : (rest.map fun v => v.category).sum ≤ 8)
    (k : rx_X p l e R s m args below meth c (rg_O (rx_fin D b ca)) H0 cells slots Q nL (rx_m (rx_fin D b ca) σ') (pc + 3) lo (.int v :: rest)) : rx_X p l e R s m args below meth c (rg_O (rx_fin D b ca)) H0 cells slots Q nL (rx_m (rx_fin D b ca) σ) pc lo (.ref (rg_A (rx_fin D b ca) 1) :: rest) :=
  rx_callV C w_Wire_isFull (rx_in t_301 rfl) z_Wire_isFull s_Wire_isFull (rx_in t_2 rfl) (by decide +kernel) rfl hd (rx_lt (by omega)) rfl hM ⟨rfl, rfl⟩ hR hf (n := 0) rfl rfl hW k
theorem q_Wire_26 (C : rx_Cw p s m args meth c R_Wire cc nL ret (rx_fin D b ca))   {v : Nat} (hd : decode cc pc = .ok (.invokevirtual 26, 3)) (hM : rx_C l (rx_fin D b ca) y_Wire_nextRow b_Wire_nextRow 1 (some (.object "RoamingNet$Message")) (rx_rm 1) [.ref (rg_A (rx_fin D b ca) 1)] σ (some (.ref (rg_A (rx_fin D b ca) v))) σ') (hq9 : rx_SI σ → 3 ≤ v ∧ v < 45) (hR : (rx_rm 1).frames + 1 ≤ R.frames ∧ 8 + (1 + 11) + (rx_rm 1).locals ≤ R.locals) (hf : cells ≤ R.cells ∧ slots ≤ R.slots) (hW : (rest.map fun v => v.category).sum ≤ 8)
    (k : (3 ≤ v ∧ v < 45) → rx_X p l e R s m args below meth c (rg_O (rx_fin D b ca)) H0 cells slots Q nL (rx_m (rx_fin D b ca) σ') (pc + 3) lo (.ref (rg_A (rx_fin D b ca) v) :: rest)) : rx_X p l e R s m args below meth c (rg_O (rx_fin D b ca)) H0 cells slots Q nL (rx_m (rx_fin D b ca) σ) pc lo (.ref (rg_A (rx_fin D b ca) 1) :: rest) :=
  rx_si (fun hI9 => rx_callV C w_Wire_nextRow (rx_in t_297 rfl) z_Wire_nextRow s_Wire_nextRow (rx_in t_2 rfl) (by decide +kernel) rfl hd (rx_lt (by omega)) rfl hM ⟨rfl, rfl⟩ hR hf (n := 0) rfl rfl hW (k (hq9 hI9)))
theorem q_Wire_30 (C : rx_Cw p s m args meth c R_Wire cc nL ret (rx_fin D b ca)) {q : Nat} (hq : 3 ≤ q ∧ q < 45) {x0 : Int32} {x1 : Int32} {x2 : Int32} {x3 : Int32}  (hd : decode cc pc = .ok (.invokevirtual 30, 3)) (hM : rx_C l (rx_fin D b ca) y_Msg_begin b_Msg_begin 5 none (rx_rm 0) [.ref (rg_A (rx_fin D b ca) q), .int x0, .int x1, .int x2, .int x3] σ none σ') (hR : (rx_rm 0).frames + 1 ≤ R.frames ∧ 8 + (5 + 11) + (rx_rm 0).locals ≤ R.locals) (hf : cells ≤ R.cells ∧ slots ≤ R.slots) (hW : (rest.map fun v => v.category).sum ≤ 8)
    (k : rx_X p l e R s m args below meth c (rg_O (rx_fin D b ca)) H0 cells slots Q nL (rx_m (rx_fin D b ca) σ') (pc + 3) lo rest) : rx_X p l e R s m args below meth c (rg_O (rx_fin D b ca)) H0 cells slots Q nL (rx_m (rx_fin D b ca) σ) pc lo (.int x3 :: .int x2 :: .int x1 :: .int x0 :: .ref (rg_A (rx_fin D b ca) q) :: rest) :=
  rx_callVN C w_Msg_begin t_305 z_Msg_begin s_Msg_begin (rx_in t_3 rfl) (by decide +kernel) rfl hd (rx_lt (by omega)) (rx_E_msg hq _) hM ⟨rfl, rfl⟩ hR hf (n := 4) rfl rfl hW k
theorem q_Wire_34 (C : rx_Cw p s m args meth c R_Wire cc nL ret (rx_fin D b ca))  {x0 : Int32} {x1 : Int32} {x2 : Int32} {x3 : Int32} {v : Nat} (hd : decode cc pc = .ok (.invokevirtual 34, 3)) (hM : rx_C l (rx_fin D b ca) y_Wire_sendTo b_Wire_sendTo 6 (some (.object "RoamingNet$Message")) (rx_rm 2) [.ref (rg_A (rx_fin D b ca) 1), .int x0, .int x1, .int x2, .int x3] σ (some (.ref (rg_A (rx_fin D b ca) v))) σ') (hq9 : rx_SI σ → 3 ≤ v ∧ v < 45) (hR : (rx_rm 2).frames + 1 ≤ R.frames ∧ 8 + (6 + 11) + (rx_rm 2).locals ≤ R.locals) (hf : cells ≤ R.cells ∧ slots ≤ R.slots) (hW : (rest.map fun v => v.category).sum ≤ 8)
    (k : (3 ≤ v ∧ v < 45) → rx_X p l e R s m args below meth c (rg_O (rx_fin D b ca)) H0 cells slots Q nL (rx_m (rx_fin D b ca) σ') (pc + 3) lo (.ref (rg_A (rx_fin D b ca) v) :: rest)) : rx_X p l e R s m args below meth c (rg_O (rx_fin D b ca)) H0 cells slots Q nL (rx_m (rx_fin D b ca) σ) pc lo (.int x3 :: .int x2 :: .int x1 :: .int x0 :: .ref (rg_A (rx_fin D b ca) 1) :: rest) :=
  rx_si (fun hI9 => rx_callV C w_Wire_sendTo (rx_in t_293 rfl) z_Wire_sendTo s_Wire_sendTo (rx_in t_2 rfl) (by decide +kernel) rfl hd (rx_lt (by omega)) rfl hM ⟨rfl, rfl⟩ hR hf (n := 4) rfl rfl hW (k (hq9 hI9)))
theorem q_Wire_41 (C : rx_Cw p s m args meth c R_Wire cc nL ret (rx_fin D b ca)) {q : Nat} (hq : 3 ≤ q ∧ q < 45) {x0 : Nat}  (hd : decode cc pc = .ok (.invokevirtual 41, 3)) (hM : rx_C l (rx_fin D b ca) y_Msg_copyFrom b_Msg_copyFrom 2 none (rx_rm 0) [.ref (rg_A (rx_fin D b ca) q), .ref (rg_A (rx_fin D b ca) x0)] σ none σ') (hR : (rx_rm 0).frames + 1 ≤ R.frames ∧ 8 + (2 + 11) + (rx_rm 0).locals ≤ R.locals) (hf : cells ≤ R.cells ∧ slots ≤ R.slots) (hW : (rest.map fun v => v.category).sum ≤ 8)
    (k : rx_X p l e R s m args below meth c (rg_O (rx_fin D b ca)) H0 cells slots Q nL (rx_m (rx_fin D b ca) σ') (pc + 3) lo rest) : rx_X p l e R s m args below meth c (rg_O (rx_fin D b ca)) H0 cells slots Q nL (rx_m (rx_fin D b ca) σ) pc lo (.ref (rg_A (rx_fin D b ca) x0) :: .ref (rg_A (rx_fin D b ca) q) :: rest) :=
  rx_callVN C w_Msg_copyFrom t_444 z_Msg_copyFrom s_Msg_copyFrom (rx_in t_3 rfl) (by decide +kernel) rfl hd (rx_lt (by omega)) (rx_E_msg hq _) hM ⟨rfl, rfl⟩ hR hf (n := 1) rfl rfl hW k
theorem k_Mob_25 : Cond.constant R_Mob 25 2147483647 ∈ rx_W := rx_in t_117 rfl
theorem k_Msg_39 : Cond.constant R_Msg 39 1000000 ∈ rx_W := rx_in t_483 rfl
theorem k_Msg_40 : Cond.constant R_Msg 40 100000 ∈ rx_W := rx_in t_484 rfl
theorem k_Msg_45 : Cond.constant R_Msg 45 16777619 ∈ rx_W := rx_in t_325 rfl
theorem g_Corr_9 (C : rx_Cw p s m args meth c R_Corr cc nL ret (rx_fin D b ca))  (hd : decode cc pc = .ok (.getfield 9, 3))
    (kk : rx_X p l e R s m args below meth c (rg_O (rx_fin D b ca)) H0 cells slots Q nL (rx_m (rx_fin D b ca) σ) (pc + 3) lo (.ref (rg_A (rx_fin D b ca) 1) :: rest)) : rx_X p l e R s m args below meth c (rg_O (rx_fin D b ca)) H0 cells slots Q nL (rx_m (rx_fin D b ca) σ) pc lo (.ref (rg_A (rx_fin D b ca) 66) :: rest) :=
  rx_get C u_Corr rfl (k := 0) (Nat.le_of_ble_eq_true rfl) (rx_in t_228 rfl) hd (rx_lt (by omega)) rfl rfl kk
theorem g_Corr_15 (C : rx_Cw p s m args meth c R_Corr cc nL ret (rx_fin D b ca))  (hd : decode cc pc = .ok (.getfield 15, 3))
    (kk : rx_X p l e R s m args below meth c (rg_O (rx_fin D b ca)) H0 cells slots Q nL (rx_m (rx_fin D b ca) σ) (pc + 3) lo (.ref (rg_A (rx_fin D b ca) 67) :: rest)) : rx_X p l e R s m args below meth c (rg_O (rx_fin D b ca)) H0 cells slots Q nL (rx_m (rx_fin D b ca) σ) pc lo (.ref (rg_A (rx_fin D b ca) 66) :: rest) :=
  rx_get C u_Corr rfl (k := 1) (Nat.le_of_ble_eq_true rfl) (rx_in t_229 rfl) hd (rx_lt (by omega)) rfl rfl kk
theorem g_Corr_19 (C : rx_Cw p s m args meth c R_Corr cc nL ret (rx_fin D b ca))  (hd : decode cc pc = .ok (.getfield 19, 3))
    (kk : rx_X p l e R s m args below meth c (rg_O (rx_fin D b ca)) H0 cells slots Q nL (rx_m (rx_fin D b ca) σ) (pc + 3) lo (.ref (rg_A (rx_fin D b ca) 68) :: rest)) : rx_X p l e R s m args below meth c (rg_O (rx_fin D b ca)) H0 cells slots Q nL (rx_m (rx_fin D b ca) σ) pc lo (.ref (rg_A (rx_fin D b ca) 66) :: rest) :=
  rx_get C u_Corr rfl (k := 2) (Nat.le_of_ble_eq_true rfl) (rx_in t_231 rfl) hd (rx_lt (by omega)) rfl rfl kk
theorem g_Corr_22 (C : rx_Cw p s m args meth c R_Corr cc nL ret (rx_fin D b ca))  (hd : decode cc pc = .ok (.getfield 22, 3))
    (kk : rx_X p l e R s m args below meth c (rg_O (rx_fin D b ca)) H0 cells slots Q nL (rx_m (rx_fin D b ca) σ) (pc + 3) lo (.ref (rg_A (rx_fin D b ca) 69) :: rest)) : rx_X p l e R s m args below meth c (rg_O (rx_fin D b ca)) H0 cells slots Q nL (rx_m (rx_fin D b ca) σ) pc lo (.ref (rg_A (rx_fin D b ca) 66) :: rest) :=
  rx_get C u_Corr rfl (k := 3) (Nat.le_of_ble_eq_true rfl) (rx_in t_233 rfl) hd (rx_lt (by omega)) rfl rfl kk
theorem g_Corr_25 (C : rx_Cw p s m args meth c R_Corr cc nL ret (rx_fin D b ca))  (hd : decode cc pc = .ok (.getfield 25, 3))
    (kk : rx_X p l e R s m args below meth c (rg_O (rx_fin D b ca)) H0 cells slots Q nL (rx_m (rx_fin D b ca) σ) (pc + 3) lo (.ref (rg_A (rx_fin D b ca) 70) :: rest)) : rx_X p l e R s m args below meth c (rg_O (rx_fin D b ca)) H0 cells slots Q nL (rx_m (rx_fin D b ca) σ) pc lo (.ref (rg_A (rx_fin D b ca) 66) :: rest) :=
  rx_get C u_Corr rfl (k := 4) (Nat.le_of_ble_eq_true rfl) (rx_in t_235 rfl) hd (rx_lt (by omega)) rfl rfl kk
theorem g_Corr_34 (C : rx_Cw p s m args meth c R_Corr cc nL ret (rx_fin D b ca))  (hd : decode cc pc = .ok (.getfield 34, 3))
    (kk : rx_X p l e R s m args below meth c (rg_O (rx_fin D b ca)) H0 cells slots Q nL (rx_m (rx_fin D b ca) σ) (pc + 3) lo (.int (σ 1 2) :: rest)) : rx_X p l e R s m args below meth c (rg_O (rx_fin D b ca)) H0 cells slots Q nL (rx_m (rx_fin D b ca) σ) pc lo (.ref (rg_A (rx_fin D b ca) 1) :: rest) :=
  rx_getN C u_Wire rfl (k := 2) (Nat.le_of_ble_eq_true rfl) t_98 hd (rx_lt (by omega)) rfl rfl kk
theorem g_Corr_38 (C : rx_Cw p s m args meth c R_Corr cc nL ret (rx_fin D b ca)) {q : Nat} (hq : 3 ≤ q ∧ q < 45) (hd : decode cc pc = .ok (.getfield 38, 3))
    (kk : rx_X p l e R s m args below meth c (rg_O (rx_fin D b ca)) H0 cells slots Q nL (rx_m (rx_fin D b ca) σ) (pc + 3) lo (.int (σ q 3) :: rest)) : rx_X p l e R s m args below meth c (rg_O (rx_fin D b ca)) H0 cells slots Q nL (rx_m (rx_fin D b ca) σ) pc lo (.ref (rg_A (rx_fin D b ca) q) :: rest) :=
  rx_getN C u_Msg rfl (k := 3) (Nat.le_of_ble_eq_true rfl) t_46 hd (rx_lt (by omega)) (rx_E_msg hq _) rfl kk
theorem g_Corr_43 (C : rx_Cw p s m args meth c R_Corr cc nL ret (rx_fin D b ca)) {q : Nat} (hq : 3 ≤ q ∧ q < 45) (hd : decode cc pc = .ok (.getfield 43, 3))
    (kk : rx_X p l e R s m args below meth c (rg_O (rx_fin D b ca)) H0 cells slots Q nL (rx_m (rx_fin D b ca) σ) (pc + 3) lo (.int (σ q 0) :: rest)) : rx_X p l e R s m args below meth c (rg_O (rx_fin D b ca)) H0 cells slots Q nL (rx_m (rx_fin D b ca) σ) pc lo (.ref (rg_A (rx_fin D b ca) q) :: rest) :=
  rx_getN C u_Msg rfl (k := 0) (Nat.le_of_ble_eq_true rfl) t_37 hd (rx_lt (by omega)) (rx_E_msg hq _) rfl kk
theorem g_Corr_46 (C : rx_Cw p s m args meth c R_Corr cc nL ret (rx_fin D b ca)) {q : Nat} (hq : 3 ≤ q ∧ q < 45) (hd : decode cc pc = .ok (.getfield 46, 3))
    (kk : rx_X p l e R s m args below meth c (rg_O (rx_fin D b ca)) H0 cells slots Q nL (rx_m (rx_fin D b ca) σ) (pc + 3) lo (.int (σ q 4) :: rest)) : rx_X p l e R s m args below meth c (rg_O (rx_fin D b ca)) H0 cells slots Q nL (rx_m (rx_fin D b ca) σ) pc lo (.ref (rg_A (rx_fin D b ca) q) :: rest) :=
  rx_getN C u_Msg rfl (k := 4) (Nat.le_of_ble_eq_true rfl) t_52 hd (rx_lt (by omega)) (rx_E_msg hq _) rfl kk
theorem g_Fa_9 (C : rx_Cw p s m args meth c R_Fa cc nL ret (rx_fin D b ca)) {a : Nat} (ha : a < 3) (hd : decode cc pc = .ok (.getfield 9, 3))
    (kk : rx_X p l e R s m args below meth c (rg_O (rx_fin D b ca)) H0 cells slots Q nL (rx_m (rx_fin D b ca) σ) (pc + 3) lo (.int (σ (54 + 4 * a) 0) :: rest)) : rx_X p l e R s m args below meth c (rg_O (rx_fin D b ca)) H0 cells slots Q nL (rx_m (rx_fin D b ca) σ) pc lo (.ref (rg_A (rx_fin D b ca) (54 + 4 * a)) :: rest) :=
  rx_get C u_Fa rfl (k := 0) (Nat.le_of_ble_eq_true rfl) (rx_in t_202 rfl) hd (rx_lt (by omega)) (rx_E_fa ha _) rfl kk
theorem g_Fa_15 (C : rx_Cw p s m args meth c R_Fa cc nL ret (rx_fin D b ca)) {a : Nat} (ha : a < 3) (hd : decode cc pc = .ok (.getfield 15, 3))
    (kk : rx_X p l e R s m args below meth c (rg_O (rx_fin D b ca)) H0 cells slots Q nL (rx_m (rx_fin D b ca) σ) (pc + 3) lo (.int (σ (54 + 4 * a) 1) :: rest)) : rx_X p l e R s m args below meth c (rg_O (rx_fin D b ca)) H0 cells slots Q nL (rx_m (rx_fin D b ca) σ) pc lo (.ref (rg_A (rx_fin D b ca) (54 + 4 * a)) :: rest) :=
  rx_get C u_Fa rfl (k := 1) (Nat.le_of_ble_eq_true rfl) (rx_in t_203 rfl) hd (rx_lt (by omega)) (rx_E_fa ha _) rfl kk
theorem g_Fa_18 (C : rx_Cw p s m args meth c R_Fa cc nL ret (rx_fin D b ca)) {a : Nat} (ha : a < 3) (hd : decode cc pc = .ok (.getfield 18, 3))
    (kk : rx_X p l e R s m args below meth c (rg_O (rx_fin D b ca)) H0 cells slots Q nL (rx_m (rx_fin D b ca) σ) (pc + 3) lo (.ref (rg_A (rx_fin D b ca) 1) :: rest)) : rx_X p l e R s m args below meth c (rg_O (rx_fin D b ca)) H0 cells slots Q nL (rx_m (rx_fin D b ca) σ) pc lo (.ref (rg_A (rx_fin D b ca) (54 + 4 * a)) :: rest) :=
  rx_get C u_Fa rfl (k := 2) (Nat.le_of_ble_eq_true rfl) (rx_in t_204 rfl) hd (rx_lt (by omega)) (rx_E_fa ha _) rfl kk
theorem g_Fa_22 (C : rx_Cw p s m args meth c R_Fa cc nL ret (rx_fin D b ca)) {a : Nat} (ha : a < 3) (hd : decode cc pc = .ok (.getfield 22, 3))
    (kk : rx_X p l e R s m args below meth c (rg_O (rx_fin D b ca)) H0 cells slots Q nL (rx_m (rx_fin D b ca) σ) (pc + 3) lo (.ref (rg_A (rx_fin D b ca) ((54 + 4 * a) + 1)) :: rest)) : rx_X p l e R s m args below meth c (rg_O (rx_fin D b ca)) H0 cells slots Q nL (rx_m (rx_fin D b ca) σ) pc lo (.ref (rg_A (rx_fin D b ca) (54 + 4 * a)) :: rest) :=
  rx_get C u_Fa rfl (k := 3) (Nat.le_of_ble_eq_true rfl) (rx_in t_205 rfl) hd (rx_lt (by omega)) (rx_E_fa ha _) rfl kk
theorem g_Fa_26 (C : rx_Cw p s m args meth c R_Fa cc nL ret (rx_fin D b ca)) {a : Nat} (ha : a < 3) (hd : decode cc pc = .ok (.getfield 26, 3))
    (kk : rx_X p l e R s m args below meth c (rg_O (rx_fin D b ca)) H0 cells slots Q nL (rx_m (rx_fin D b ca) σ) (pc + 3) lo (.ref (rg_A (rx_fin D b ca) ((54 + 4 * a) + 2)) :: rest)) : rx_X p l e R s m args below meth c (rg_O (rx_fin D b ca)) H0 cells slots Q nL (rx_m (rx_fin D b ca) σ) pc lo (.ref (rg_A (rx_fin D b ca) (54 + 4 * a)) :: rest) :=
  rx_get C u_Fa rfl (k := 4) (Nat.le_of_ble_eq_true rfl) (rx_in t_207 rfl) hd (rx_lt (by omega)) (rx_E_fa ha _) rfl kk
theorem g_Fa_29 (C : rx_Cw p s m args meth c R_Fa cc nL ret (rx_fin D b ca)) {a : Nat} (ha : a < 3) (hd : decode cc pc = .ok (.getfield 29, 3))
    (kk : rx_X p l e R s m args below meth c (rg_O (rx_fin D b ca)) H0 cells slots Q nL (rx_m (rx_fin D b ca) σ) (pc + 3) lo (.ref (rg_A (rx_fin D b ca) ((54 + 4 * a) + 3)) :: rest)) : rx_X p l e R s m args below meth c (rg_O (rx_fin D b ca)) H0 cells slots Q nL (rx_m (rx_fin D b ca) σ) pc lo (.ref (rg_A (rx_fin D b ca) (54 + 4 * a)) :: rest) :=
  rx_get C u_Fa rfl (k := 5) (Nat.le_of_ble_eq_true rfl) (rx_in t_208 rfl) hd (rx_lt (by omega)) (rx_E_fa ha _) rfl kk
theorem g_Fa_32 (C : rx_Cw p s m args meth c R_Fa cc nL ret (rx_fin D b ca))  (hd : decode cc pc = .ok (.getfield 32, 3))
    (kk : rx_X p l e R s m args below meth c (rg_O (rx_fin D b ca)) H0 cells slots Q nL (rx_m (rx_fin D b ca) σ) (pc + 3) lo (.int (σ 1 2) :: rest)) : rx_X p l e R s m args below meth c (rg_O (rx_fin D b ca)) H0 cells slots Q nL (rx_m (rx_fin D b ca) σ) pc lo (.ref (rg_A (rx_fin D b ca) 1) :: rest) :=
  rx_getN C u_Wire rfl (k := 2) (Nat.le_of_ble_eq_true rfl) t_97 hd (rx_lt (by omega)) rfl rfl kk
theorem g_Fa_47 (C : rx_Cw p s m args meth c R_Fa cc nL ret (rx_fin D b ca)) {q : Nat} (hq : 3 ≤ q ∧ q < 45) (hd : decode cc pc = .ok (.getfield 47, 3))
    (kk : rx_X p l e R s m args below meth c (rg_O (rx_fin D b ca)) H0 cells slots Q nL (rx_m (rx_fin D b ca) σ) (pc + 3) lo (.int (σ q 0) :: rest)) : rx_X p l e R s m args below meth c (rg_O (rx_fin D b ca)) H0 cells slots Q nL (rx_m (rx_fin D b ca) σ) pc lo (.ref (rg_A (rx_fin D b ca) q) :: rest) :=
  rx_getN C u_Msg rfl (k := 0) (Nat.le_of_ble_eq_true rfl) t_38 hd (rx_lt (by omega)) (rx_E_msg hq _) rfl kk
theorem g_Fa_59 (C : rx_Cw p s m args meth c R_Fa cc nL ret (rx_fin D b ca)) {q : Nat} (hq : 3 ≤ q ∧ q < 45) (hd : decode cc pc = .ok (.getfield 59, 3))
    (kk : rx_X p l e R s m args below meth c (rg_O (rx_fin D b ca)) H0 cells slots Q nL (rx_m (rx_fin D b ca) σ) (pc + 3) lo (.int (σ q 3) :: rest)) : rx_X p l e R s m args below meth c (rg_O (rx_fin D b ca)) H0 cells slots Q nL (rx_m (rx_fin D b ca) σ) pc lo (.ref (rg_A (rx_fin D b ca) q) :: rest) :=
  rx_getN C u_Msg rfl (k := 3) (Nat.le_of_ble_eq_true rfl) t_48 hd (rx_lt (by omega)) (rx_E_msg hq _) rfl kk
theorem g_Fa_62 (C : rx_Cw p s m args meth c R_Fa cc nL ret (rx_fin D b ca)) {q : Nat} (hq : 3 ≤ q ∧ q < 45) (hd : decode cc pc = .ok (.getfield 62, 3))
    (kk : rx_X p l e R s m args below meth c (rg_O (rx_fin D b ca)) H0 cells slots Q nL (rx_m (rx_fin D b ca) σ) (pc + 3) lo (.int (σ q 4) :: rest)) : rx_X p l e R s m args below meth c (rg_O (rx_fin D b ca)) H0 cells slots Q nL (rx_m (rx_fin D b ca) σ) pc lo (.ref (rg_A (rx_fin D b ca) q) :: rest) :=
  rx_getN C u_Msg rfl (k := 4) (Nat.le_of_ble_eq_true rfl) t_54 hd (rx_lt (by omega)) (rx_E_msg hq _) rfl kk
theorem g_Fa_69 (C : rx_Cw p s m args meth c R_Fa cc nL ret (rx_fin D b ca)) {q : Nat} (hq : 3 ≤ q ∧ q < 45) (hd : decode cc pc = .ok (.getfield 69, 3))
    (kk : rx_X p l e R s m args below meth c (rg_O (rx_fin D b ca)) H0 cells slots Q nL (rx_m (rx_fin D b ca) σ) (pc + 3) lo (.int (σ q 5) :: rest)) : rx_X p l e R s m args below meth c (rg_O (rx_fin D b ca)) H0 cells slots Q nL (rx_m (rx_fin D b ca) σ) pc lo (.ref (rg_A (rx_fin D b ca) q) :: rest) :=
  rx_getN C u_Msg rfl (k := 5) (Nat.le_of_ble_eq_true rfl) t_58 hd (rx_lt (by omega)) (rx_E_msg hq _) rfl kk
theorem g_Fa_80 (C : rx_Cw p s m args meth c R_Fa cc nL ret (rx_fin D b ca)) {q : Nat} (hq : 3 ≤ q ∧ q < 45) (hd : decode cc pc = .ok (.getfield 80, 3))
    (kk : rx_X p l e R s m args below meth c (rg_O (rx_fin D b ca)) H0 cells slots Q nL (rx_m (rx_fin D b ca) σ) (pc + 3) lo (.int (σ q 6) :: rest)) : rx_X p l e R s m args below meth c (rg_O (rx_fin D b ca)) H0 cells slots Q nL (rx_m (rx_fin D b ca) σ) pc lo (.ref (rg_A (rx_fin D b ca) q) :: rest) :=
  rx_getN C u_Msg rfl (k := 6) (Nat.le_of_ble_eq_true rfl) t_63 hd (rx_lt (by omega)) (rx_E_msg hq _) rfl kk
theorem g_Fa_87 (C : rx_Cw p s m args meth c R_Fa cc nL ret (rx_fin D b ca)) {q : Nat} (hq : 3 ≤ q ∧ q < 45) (hd : decode cc pc = .ok (.getfield 87, 3))
    (kk : rx_X p l e R s m args below meth c (rg_O (rx_fin D b ca)) H0 cells slots Q nL (rx_m (rx_fin D b ca) σ) (pc + 3) lo (.int (σ q 7) :: rest)) : rx_X p l e R s m args below meth c (rg_O (rx_fin D b ca)) H0 cells slots Q nL (rx_m (rx_fin D b ca) σ) pc lo (.ref (rg_A (rx_fin D b ca) q) :: rest) :=
  rx_getN C u_Msg rfl (k := 7) (Nat.le_of_ble_eq_true rfl) t_67 hd (rx_lt (by omega)) (rx_E_msg hq _) rfl kk
theorem g_Home_9 (C : rx_Cw p s m args meth c R_Home cc nL ret (rx_fin D b ca))  (hd : decode cc pc = .ok (.getfield 9, 3))
    (kk : rx_X p l e R s m args below meth c (rg_O (rx_fin D b ca)) H0 cells slots Q nL (rx_m (rx_fin D b ca) σ) (pc + 3) lo (.int (σ 48 0) :: rest)) : rx_X p l e R s m args below meth c (rg_O (rx_fin D b ca)) H0 cells slots Q nL (rx_m (rx_fin D b ca) σ) pc lo (.ref (rg_A (rx_fin D b ca) 48) :: rest) :=
  rx_get C u_Home rfl (k := 0) (Nat.le_of_ble_eq_true rfl) (rx_in t_172 rfl) hd (rx_lt (by omega)) rfl rfl kk
theorem g_Home_15 (C : rx_Cw p s m args meth c R_Home cc nL ret (rx_fin D b ca))  (hd : decode cc pc = .ok (.getfield 15, 3))
    (kk : rx_X p l e R s m args below meth c (rg_O (rx_fin D b ca)) H0 cells slots Q nL (rx_m (rx_fin D b ca) σ) (pc + 3) lo (.ref (rg_A (rx_fin D b ca) 1) :: rest)) : rx_X p l e R s m args below meth c (rg_O (rx_fin D b ca)) H0 cells slots Q nL (rx_m (rx_fin D b ca) σ) pc lo (.ref (rg_A (rx_fin D b ca) 48) :: rest) :=
  rx_get C u_Home rfl (k := 1) (Nat.le_of_ble_eq_true rfl) (rx_in t_173 rfl) hd (rx_lt (by omega)) rfl rfl kk
theorem g_Home_19 (C : rx_Cw p s m args meth c R_Home cc nL ret (rx_fin D b ca))  (hd : decode cc pc = .ok (.getfield 19, 3))
    (kk : rx_X p l e R s m args below meth c (rg_O (rx_fin D b ca)) H0 cells slots Q nL (rx_m (rx_fin D b ca) σ) (pc + 3) lo (.ref (rg_A (rx_fin D b ca) 49) :: rest)) : rx_X p l e R s m args below meth c (rg_O (rx_fin D b ca)) H0 cells slots Q nL (rx_m (rx_fin D b ca) σ) pc lo (.ref (rg_A (rx_fin D b ca) 48) :: rest) :=
  rx_get C u_Home rfl (k := 2) (Nat.le_of_ble_eq_true rfl) (rx_in t_174 rfl) hd (rx_lt (by omega)) rfl rfl kk
theorem g_Home_23 (C : rx_Cw p s m args meth c R_Home cc nL ret (rx_fin D b ca))  (hd : decode cc pc = .ok (.getfield 23, 3))
    (kk : rx_X p l e R s m args below meth c (rg_O (rx_fin D b ca)) H0 cells slots Q nL (rx_m (rx_fin D b ca) σ) (pc + 3) lo (.ref (rg_A (rx_fin D b ca) 50) :: rest)) : rx_X p l e R s m args below meth c (rg_O (rx_fin D b ca)) H0 cells slots Q nL (rx_m (rx_fin D b ca) σ) pc lo (.ref (rg_A (rx_fin D b ca) 48) :: rest) :=
  rx_get C u_Home rfl (k := 3) (Nat.le_of_ble_eq_true rfl) (rx_in t_176 rfl) hd (rx_lt (by omega)) rfl rfl kk
theorem g_Home_26 (C : rx_Cw p s m args meth c R_Home cc nL ret (rx_fin D b ca))  (hd : decode cc pc = .ok (.getfield 26, 3))
    (kk : rx_X p l e R s m args below meth c (rg_O (rx_fin D b ca)) H0 cells slots Q nL (rx_m (rx_fin D b ca) σ) (pc + 3) lo (.ref (rg_A (rx_fin D b ca) 51) :: rest)) : rx_X p l e R s m args below meth c (rg_O (rx_fin D b ca)) H0 cells slots Q nL (rx_m (rx_fin D b ca) σ) pc lo (.ref (rg_A (rx_fin D b ca) 48) :: rest) :=
  rx_get C u_Home rfl (k := 4) (Nat.le_of_ble_eq_true rfl) (rx_in t_177 rfl) hd (rx_lt (by omega)) rfl rfl kk
theorem g_Home_29 (C : rx_Cw p s m args meth c R_Home cc nL ret (rx_fin D b ca))  (hd : decode cc pc = .ok (.getfield 29, 3))
    (kk : rx_X p l e R s m args below meth c (rg_O (rx_fin D b ca)) H0 cells slots Q nL (rx_m (rx_fin D b ca) σ) (pc + 3) lo (.ref (rg_A (rx_fin D b ca) 52) :: rest)) : rx_X p l e R s m args below meth c (rg_O (rx_fin D b ca)) H0 cells slots Q nL (rx_m (rx_fin D b ca) σ) pc lo (.ref (rg_A (rx_fin D b ca) 48) :: rest) :=
  rx_get C u_Home rfl (k := 5) (Nat.le_of_ble_eq_true rfl) (rx_in t_179 rfl) hd (rx_lt (by omega)) rfl rfl kk
theorem g_Home_32 (C : rx_Cw p s m args meth c R_Home cc nL ret (rx_fin D b ca))  (hd : decode cc pc = .ok (.getfield 32, 3))
    (kk : rx_X p l e R s m args below meth c (rg_O (rx_fin D b ca)) H0 cells slots Q nL (rx_m (rx_fin D b ca) σ) (pc + 3) lo (.int (σ 1 2) :: rest)) : rx_X p l e R s m args below meth c (rg_O (rx_fin D b ca)) H0 cells slots Q nL (rx_m (rx_fin D b ca) σ) pc lo (.ref (rg_A (rx_fin D b ca) 1) :: rest) :=
  rx_getN C u_Wire rfl (k := 2) (Nat.le_of_ble_eq_true rfl) t_96 hd (rx_lt (by omega)) rfl rfl kk
theorem g_Home_37 (C : rx_Cw p s m args meth c R_Home cc nL ret (rx_fin D b ca)) {q : Nat} (hq : 3 ≤ q ∧ q < 45) (hd : decode cc pc = .ok (.getfield 37, 3))
    (kk : rx_X p l e R s m args below meth c (rg_O (rx_fin D b ca)) H0 cells slots Q nL (rx_m (rx_fin D b ca) σ) (pc + 3) lo (.int (σ q 0) :: rest)) : rx_X p l e R s m args below meth c (rg_O (rx_fin D b ca)) H0 cells slots Q nL (rx_m (rx_fin D b ca) σ) pc lo (.ref (rg_A (rx_fin D b ca) q) :: rest) :=
  rx_getN C u_Msg rfl (k := 0) (Nat.le_of_ble_eq_true rfl) t_36 hd (rx_lt (by omega)) (rx_E_msg hq _) rfl kk
theorem g_Home_46 (C : rx_Cw p s m args meth c R_Home cc nL ret (rx_fin D b ca)) {q : Nat} (hq : 3 ≤ q ∧ q < 45) (hd : decode cc pc = .ok (.getfield 46, 3))
    (kk : rx_X p l e R s m args below meth c (rg_O (rx_fin D b ca)) H0 cells slots Q nL (rx_m (rx_fin D b ca) σ) (pc + 3) lo (.int (σ q 3) :: rest)) : rx_X p l e R s m args below meth c (rg_O (rx_fin D b ca)) H0 cells slots Q nL (rx_m (rx_fin D b ca) σ) pc lo (.ref (rg_A (rx_fin D b ca) q) :: rest) :=
  rx_getN C u_Msg rfl (k := 3) (Nat.le_of_ble_eq_true rfl) t_47 hd (rx_lt (by omega)) (rx_E_msg hq _) rfl kk
theorem g_Home_49 (C : rx_Cw p s m args meth c R_Home cc nL ret (rx_fin D b ca)) {q : Nat} (hq : 3 ≤ q ∧ q < 45) (hd : decode cc pc = .ok (.getfield 49, 3))
    (kk : rx_X p l e R s m args below meth c (rg_O (rx_fin D b ca)) H0 cells slots Q nL (rx_m (rx_fin D b ca) σ) (pc + 3) lo (.int (σ q 4) :: rest)) : rx_X p l e R s m args below meth c (rg_O (rx_fin D b ca)) H0 cells slots Q nL (rx_m (rx_fin D b ca) σ) pc lo (.ref (rg_A (rx_fin D b ca) q) :: rest) :=
  rx_getN C u_Msg rfl (k := 4) (Nat.le_of_ble_eq_true rfl) t_53 hd (rx_lt (by omega)) (rx_E_msg hq _) rfl kk
theorem g_Home_60 (C : rx_Cw p s m args meth c R_Home cc nL ret (rx_fin D b ca)) {q : Nat} (hq : 3 ≤ q ∧ q < 45) (hd : decode cc pc = .ok (.getfield 60, 3))
    (kk : rx_X p l e R s m args below meth c (rg_O (rx_fin D b ca)) H0 cells slots Q nL (rx_m (rx_fin D b ca) σ) (pc + 3) lo (.int (σ q 7) :: rest)) : rx_X p l e R s m args below meth c (rg_O (rx_fin D b ca)) H0 cells slots Q nL (rx_m (rx_fin D b ca) σ) pc lo (.ref (rg_A (rx_fin D b ca) q) :: rest) :=
  rx_getN C u_Msg rfl (k := 7) (Nat.le_of_ble_eq_true rfl) t_65 hd (rx_lt (by omega)) (rx_E_msg hq _) rfl kk
theorem g_Home_69 (C : rx_Cw p s m args meth c R_Home cc nL ret (rx_fin D b ca)) {q : Nat} (hq : 3 ≤ q ∧ q < 45) (hd : decode cc pc = .ok (.getfield 69, 3))
    (kk : rx_X p l e R s m args below meth c (rg_O (rx_fin D b ca)) H0 cells slots Q nL (rx_m (rx_fin D b ca) σ) (pc + 3) lo (.int (σ q 5) :: rest)) : rx_X p l e R s m args below meth c (rg_O (rx_fin D b ca)) H0 cells slots Q nL (rx_m (rx_fin D b ca) σ) pc lo (.ref (rg_A (rx_fin D b ca) q) :: rest) :=
  rx_getN C u_Msg rfl (k := 5) (Nat.le_of_ble_eq_true rfl) t_56 hd (rx_lt (by omega)) (rx_E_msg hq _) rfl kk
theorem g_Home_85 (C : rx_Cw p s m args meth c R_Home cc nL ret (rx_fin D b ca)) {q : Nat} (hq : 3 ≤ q ∧ q < 45) (hd : decode cc pc = .ok (.getfield 85, 3))
    (kk : rx_X p l e R s m args below meth c (rg_O (rx_fin D b ca)) H0 cells slots Q nL (rx_m (rx_fin D b ca) σ) (pc + 3) lo (.int (σ q 8) :: rest)) : rx_X p l e R s m args below meth c (rg_O (rx_fin D b ca)) H0 cells slots Q nL (rx_m (rx_fin D b ca) σ) pc lo (.ref (rg_A (rx_fin D b ca) q) :: rest) :=
  rx_getN C u_Msg rfl (k := 8) (Nat.le_of_ble_eq_true rfl) t_70 hd (rx_lt (by omega)) (rx_E_msg hq _) rfl kk
theorem g_Mob_9 (C : rx_Cw p s m args meth c R_Mob cc nL ret (rx_fin D b ca)) {j : Nat} (hj : j < 2) (hd : decode cc pc = .ok (.getfield 9, 3))
    (kk : rx_X p l e R s m args below meth c (rg_O (rx_fin D b ca)) H0 cells slots Q nL (rx_m (rx_fin D b ca) σ) (pc + 3) lo (.int (σ (46 + j) 0) :: rest)) : rx_X p l e R s m args below meth c (rg_O (rx_fin D b ca)) H0 cells slots Q nL (rx_m (rx_fin D b ca) σ) pc lo (.ref (rg_A (rx_fin D b ca) (46 + j)) :: rest) :=
  rx_get C u_Mob rfl (k := 0) (Nat.le_of_ble_eq_true rfl) (rx_in t_118 rfl) hd (rx_lt (by omega)) (rx_E_mob hj _) rfl kk
theorem g_Mob_15 (C : rx_Cw p s m args meth c R_Mob cc nL ret (rx_fin D b ca)) {j : Nat} (hj : j < 2) (hd : decode cc pc = .ok (.getfield 15, 3))
    (kk : rx_X p l e R s m args below meth c (rg_O (rx_fin D b ca)) H0 cells slots Q nL (rx_m (rx_fin D b ca) σ) (pc + 3) lo (.int (σ (46 + j) 1) :: rest)) : rx_X p l e R s m args below meth c (rg_O (rx_fin D b ca)) H0 cells slots Q nL (rx_m (rx_fin D b ca) σ) pc lo (.ref (rg_A (rx_fin D b ca) (46 + j)) :: rest) :=
  rx_get C u_Mob rfl (k := 1) (Nat.le_of_ble_eq_true rfl) (rx_in t_119 rfl) hd (rx_lt (by omega)) (rx_E_mob hj _) rfl kk
theorem g_Mob_18 (C : rx_Cw p s m args meth c R_Mob cc nL ret (rx_fin D b ca)) {j : Nat} (hj : j < 2) (hd : decode cc pc = .ok (.getfield 18, 3))
    (kk : rx_X p l e R s m args below meth c (rg_O (rx_fin D b ca)) H0 cells slots Q nL (rx_m (rx_fin D b ca) σ) (pc + 3) lo (.ref (rg_A (rx_fin D b ca) 1) :: rest)) : rx_X p l e R s m args below meth c (rg_O (rx_fin D b ca)) H0 cells slots Q nL (rx_m (rx_fin D b ca) σ) pc lo (.ref (rg_A (rx_fin D b ca) (46 + j)) :: rest) :=
  rx_get C u_Mob rfl (k := 2) (Nat.le_of_ble_eq_true rfl) (rx_in t_120 rfl) hd (rx_lt (by omega)) (rx_E_mob hj _) rfl kk
theorem g_Mob_22 (C : rx_Cw p s m args meth c R_Mob cc nL ret (rx_fin D b ca)) {j : Nat} (hj : j < 2) (hd : decode cc pc = .ok (.getfield 22, 3))
    (kk : rx_X p l e R s m args below meth c (rg_O (rx_fin D b ca)) H0 cells slots Q nL (rx_m (rx_fin D b ca) σ) (pc + 3) lo (.int (σ (46 + j) 6) :: rest)) : rx_X p l e R s m args below meth c (rg_O (rx_fin D b ca)) H0 cells slots Q nL (rx_m (rx_fin D b ca) σ) pc lo (.ref (rg_A (rx_fin D b ca) (46 + j)) :: rest) :=
  rx_get C u_Mob rfl (k := 6) (Nat.le_of_ble_eq_true rfl) (rx_in t_126 rfl) hd (rx_lt (by omega)) (rx_E_mob hj _) rfl kk
theorem g_Mob_26 (C : rx_Cw p s m args meth c R_Mob cc nL ret (rx_fin D b ca)) {j : Nat} (hj : j < 2) (hd : decode cc pc = .ok (.getfield 26, 3))
    (kk : rx_X p l e R s m args below meth c (rg_O (rx_fin D b ca)) H0 cells slots Q nL (rx_m (rx_fin D b ca) σ) (pc + 3) lo (.int (σ (46 + j) 7) :: rest)) : rx_X p l e R s m args below meth c (rg_O (rx_fin D b ca)) H0 cells slots Q nL (rx_m (rx_fin D b ca) σ) pc lo (.ref (rg_A (rx_fin D b ca) (46 + j)) :: rest) :=
  rx_get C u_Mob rfl (k := 7) (Nat.le_of_ble_eq_true rfl) (rx_in t_128 rfl) hd (rx_lt (by omega)) (rx_E_mob hj _) rfl kk
theorem g_Mob_29 (C : rx_Cw p s m args meth c R_Mob cc nL ret (rx_fin D b ca)) {j : Nat} (hj : j < 2) (hd : decode cc pc = .ok (.getfield 29, 3))
    (kk : rx_X p l e R s m args below meth c (rg_O (rx_fin D b ca)) H0 cells slots Q nL (rx_m (rx_fin D b ca) σ) (pc + 3) lo (.int (σ (46 + j) 8) :: rest)) : rx_X p l e R s m args below meth c (rg_O (rx_fin D b ca)) H0 cells slots Q nL (rx_m (rx_fin D b ca) σ) pc lo (.ref (rg_A (rx_fin D b ca) (46 + j)) :: rest) :=
  rx_get C u_Mob rfl (k := 8) (Nat.le_of_ble_eq_true rfl) (rx_in t_129 rfl) hd (rx_lt (by omega)) (rx_E_mob hj _) rfl kk
theorem g_Mob_32 (C : rx_Cw p s m args meth c R_Mob cc nL ret (rx_fin D b ca)) {q : Nat} (hq : 3 ≤ q ∧ q < 45) (hd : decode cc pc = .ok (.getfield 32, 3))
    (kk : rx_X p l e R s m args below meth c (rg_O (rx_fin D b ca)) H0 cells slots Q nL (rx_m (rx_fin D b ca) σ) (pc + 3) lo (.int (σ q 2) :: rest)) : rx_X p l e R s m args below meth c (rg_O (rx_fin D b ca)) H0 cells slots Q nL (rx_m (rx_fin D b ca) σ) pc lo (.ref (rg_A (rx_fin D b ca) q) :: rest) :=
  rx_getN C u_Msg rfl (k := 2) (Nat.le_of_ble_eq_true rfl) t_42 hd (rx_lt (by omega)) (rx_E_msg hq _) rfl kk
theorem g_Mob_37 (C : rx_Cw p s m args meth c R_Mob cc nL ret (rx_fin D b ca)) {j : Nat} (hj : j < 2) (hd : decode cc pc = .ok (.getfield 37, 3))
    (kk : rx_X p l e R s m args below meth c (rg_O (rx_fin D b ca)) H0 cells slots Q nL (rx_m (rx_fin D b ca) σ) (pc + 3) lo (.int (σ (46 + j) 4) :: rest)) : rx_X p l e R s m args below meth c (rg_O (rx_fin D b ca)) H0 cells slots Q nL (rx_m (rx_fin D b ca) σ) pc lo (.ref (rg_A (rx_fin D b ca) (46 + j)) :: rest) :=
  rx_get C u_Mob rfl (k := 4) (Nat.le_of_ble_eq_true rfl) (rx_in t_123 rfl) hd (rx_lt (by omega)) (rx_E_mob hj _) rfl kk
theorem g_Mob_38 (C : rx_Cw p s m args meth c R_Mob cc nL ret (rx_fin D b ca)) {q : Nat} (hq : 3 ≤ q ∧ q < 45) (hd : decode cc pc = .ok (.getfield 38, 3))
    (kk : rx_X p l e R s m args below meth c (rg_O (rx_fin D b ca)) H0 cells slots Q nL (rx_m (rx_fin D b ca) σ) (pc + 3) lo (.int (σ q 0) :: rest)) : rx_X p l e R s m args below meth c (rg_O (rx_fin D b ca)) H0 cells slots Q nL (rx_m (rx_fin D b ca) σ) pc lo (.ref (rg_A (rx_fin D b ca) q) :: rest) :=
  rx_getN C u_Msg rfl (k := 0) (Nat.le_of_ble_eq_true rfl) t_35 hd (rx_lt (by omega)) (rx_E_msg hq _) rfl kk
theorem g_Mob_41 (C : rx_Cw p s m args meth c R_Mob cc nL ret (rx_fin D b ca)) {q : Nat} (hq : 3 ≤ q ∧ q < 45) (hd : decode cc pc = .ok (.getfield 41, 3))
    (kk : rx_X p l e R s m args below meth c (rg_O (rx_fin D b ca)) H0 cells slots Q nL (rx_m (rx_fin D b ca) σ) (pc + 3) lo (.int (σ q 4) :: rest)) : rx_X p l e R s m args below meth c (rg_O (rx_fin D b ca)) H0 cells slots Q nL (rx_m (rx_fin D b ca) σ) pc lo (.ref (rg_A (rx_fin D b ca) q) :: rest) :=
  rx_getN C u_Msg rfl (k := 4) (Nat.le_of_ble_eq_true rfl) t_51 hd (rx_lt (by omega)) (rx_E_msg hq _) rfl kk
theorem g_Mob_55 (C : rx_Cw p s m args meth c R_Mob cc nL ret (rx_fin D b ca))  (hd : decode cc pc = .ok (.getfield 55, 3))
    (kk : rx_X p l e R s m args below meth c (rg_O (rx_fin D b ca)) H0 cells slots Q nL (rx_m (rx_fin D b ca) σ) (pc + 3) lo (.int (σ 1 2) :: rest)) : rx_X p l e R s m args below meth c (rg_O (rx_fin D b ca)) H0 cells slots Q nL (rx_m (rx_fin D b ca) σ) pc lo (.ref (rg_A (rx_fin D b ca) 1) :: rest) :=
  rx_getN C u_Wire rfl (k := 2) (Nat.le_of_ble_eq_true rfl) t_99 hd (rx_lt (by omega)) rfl rfl kk
theorem g_Mob_60 (C : rx_Cw p s m args meth c R_Mob cc nL ret (rx_fin D b ca)) {j : Nat} (hj : j < 2) (hd : decode cc pc = .ok (.getfield 60, 3))
    (kk : rx_X p l e R s m args below meth c (rg_O (rx_fin D b ca)) H0 cells slots Q nL (rx_m (rx_fin D b ca) σ) (pc + 3) lo (.int (σ (46 + j) 9) :: rest)) : rx_X p l e R s m args below meth c (rg_O (rx_fin D b ca)) H0 cells slots Q nL (rx_m (rx_fin D b ca) σ) pc lo (.ref (rg_A (rx_fin D b ca) (46 + j)) :: rest) :=
  rx_get C u_Mob rfl (k := 9) (Nat.le_of_ble_eq_true rfl) (rx_in t_130 rfl) hd (rx_lt (by omega)) (rx_E_mob hj _) rfl kk
theorem g_Mob_63 (C : rx_Cw p s m args meth c R_Mob cc nL ret (rx_fin D b ca)) {j : Nat} (hj : j < 2) (hd : decode cc pc = .ok (.getfield 63, 3))
    (kk : rx_X p l e R s m args below meth c (rg_O (rx_fin D b ca)) H0 cells slots Q nL (rx_m (rx_fin D b ca) σ) (pc + 3) lo (.int (σ (46 + j) 10) :: rest)) : rx_X p l e R s m args below meth c (rg_O (rx_fin D b ca)) H0 cells slots Q nL (rx_m (rx_fin D b ca) σ) pc lo (.ref (rg_A (rx_fin D b ca) (46 + j)) :: rest) :=
  rx_get C u_Mob rfl (k := 10) (Nat.le_of_ble_eq_true rfl) (rx_in t_131 rfl) hd (rx_lt (by omega)) (rx_E_mob hj _) rfl kk
theorem g_Mob_66 (C : rx_Cw p s m args meth c R_Mob cc nL ret (rx_fin D b ca)) {j : Nat} (hj : j < 2) (hd : decode cc pc = .ok (.getfield 66, 3))
    (kk : rx_X p l e R s m args below meth c (rg_O (rx_fin D b ca)) H0 cells slots Q nL (rx_m (rx_fin D b ca) σ) (pc + 3) lo (.int (σ (46 + j) 11) :: rest)) : rx_X p l e R s m args below meth c (rg_O (rx_fin D b ca)) H0 cells slots Q nL (rx_m (rx_fin D b ca) σ) pc lo (.ref (rg_A (rx_fin D b ca) (46 + j)) :: rest) :=
  rx_get C u_Mob rfl (k := 11) (Nat.le_of_ble_eq_true rfl) (rx_in t_133 rfl) hd (rx_lt (by omega)) (rx_E_mob hj _) rfl kk
theorem g_Mob_76 (C : rx_Cw p s m args meth c R_Mob cc nL ret (rx_fin D b ca)) {j : Nat} (hj : j < 2) (hd : decode cc pc = .ok (.getfield 76, 3))
    (kk : rx_X p l e R s m args below meth c (rg_O (rx_fin D b ca)) H0 cells slots Q nL (rx_m (rx_fin D b ca) σ) (pc + 3) lo (.int (σ (46 + j) 5) :: rest)) : rx_X p l e R s m args below meth c (rg_O (rx_fin D b ca)) H0 cells slots Q nL (rx_m (rx_fin D b ca) σ) pc lo (.ref (rg_A (rx_fin D b ca) (46 + j)) :: rest) :=
  rx_get C u_Mob rfl (k := 5) (Nat.le_of_ble_eq_true rfl) (rx_in t_125 rfl) hd (rx_lt (by omega)) (rx_E_mob hj _) rfl kk
theorem g_Mob_83 (C : rx_Cw p s m args meth c R_Mob cc nL ret (rx_fin D b ca)) {q : Nat} (hq : 3 ≤ q ∧ q < 45) (hd : decode cc pc = .ok (.getfield 83, 3))
    (kk : rx_X p l e R s m args below meth c (rg_O (rx_fin D b ca)) H0 cells slots Q nL (rx_m (rx_fin D b ca) σ) (pc + 3) lo (.int (σ q 5) :: rest)) : rx_X p l e R s m args below meth c (rg_O (rx_fin D b ca)) H0 cells slots Q nL (rx_m (rx_fin D b ca) σ) pc lo (.ref (rg_A (rx_fin D b ca) q) :: rest) :=
  rx_getN C u_Msg rfl (k := 5) (Nat.le_of_ble_eq_true rfl) t_57 hd (rx_lt (by omega)) (rx_E_msg hq _) rfl kk
theorem g_Mob_86 (C : rx_Cw p s m args meth c R_Mob cc nL ret (rx_fin D b ca)) {q : Nat} (hq : 3 ≤ q ∧ q < 45) (hd : decode cc pc = .ok (.getfield 86, 3))
    (kk : rx_X p l e R s m args below meth c (rg_O (rx_fin D b ca)) H0 cells slots Q nL (rx_m (rx_fin D b ca) σ) (pc + 3) lo (.int (σ q 7) :: rest)) : rx_X p l e R s m args below meth c (rg_O (rx_fin D b ca)) H0 cells slots Q nL (rx_m (rx_fin D b ca) σ) pc lo (.ref (rg_A (rx_fin D b ca) q) :: rest) :=
  rx_getN C u_Msg rfl (k := 7) (Nat.le_of_ble_eq_true rfl) t_66 hd (rx_lt (by omega)) (rx_E_msg hq _) rfl kk
theorem g_Mob_89 (C : rx_Cw p s m args meth c R_Mob cc nL ret (rx_fin D b ca)) {j : Nat} (hj : j < 2) (hd : decode cc pc = .ok (.getfield 89, 3))
    (kk : rx_X p l e R s m args below meth c (rg_O (rx_fin D b ca)) H0 cells slots Q nL (rx_m (rx_fin D b ca) σ) (pc + 3) lo (.int (σ (46 + j) 3) :: rest)) : rx_X p l e R s m args below meth c (rg_O (rx_fin D b ca)) H0 cells slots Q nL (rx_m (rx_fin D b ca) σ) pc lo (.ref (rg_A (rx_fin D b ca) (46 + j)) :: rest) :=
  rx_get C u_Mob rfl (k := 3) (Nat.le_of_ble_eq_true rfl) (rx_in t_122 rfl) hd (rx_lt (by omega)) (rx_E_mob hj _) rfl kk
theorem g_Mob_96 (C : rx_Cw p s m args meth c R_Mob cc nL ret (rx_fin D b ca)) {q : Nat} (hq : 3 ≤ q ∧ q < 45) (hd : decode cc pc = .ok (.getfield 96, 3))
    (kk : rx_X p l e R s m args below meth c (rg_O (rx_fin D b ca)) H0 cells slots Q nL (rx_m (rx_fin D b ca) σ) (pc + 3) lo (.int (σ q 8) :: rest)) : rx_X p l e R s m args below meth c (rg_O (rx_fin D b ca)) H0 cells slots Q nL (rx_m (rx_fin D b ca) σ) pc lo (.ref (rg_A (rx_fin D b ca) q) :: rest) :=
  rx_getN C u_Msg rfl (k := 8) (Nat.le_of_ble_eq_true rfl) t_71 hd (rx_lt (by omega)) (rx_E_msg hq _) rfl kk
theorem g_Mob_99 (C : rx_Cw p s m args meth c R_Mob cc nL ret (rx_fin D b ca)) {j : Nat} (hj : j < 2) (hd : decode cc pc = .ok (.getfield 99, 3))
    (kk : rx_X p l e R s m args below meth c (rg_O (rx_fin D b ca)) H0 cells slots Q nL (rx_m (rx_fin D b ca) σ) (pc + 3) lo (.int (σ (46 + j) 12) :: rest)) : rx_X p l e R s m args below meth c (rg_O (rx_fin D b ca)) H0 cells slots Q nL (rx_m (rx_fin D b ca) σ) pc lo (.ref (rg_A (rx_fin D b ca) (46 + j)) :: rest) :=
  rx_get C u_Mob rfl (k := 12) (Nat.le_of_ble_eq_true rfl) (rx_in t_134 rfl) hd (rx_lt (by omega)) (rx_E_mob hj _) rfl kk
theorem g_Mob_102 (C : rx_Cw p s m args meth c R_Mob cc nL ret (rx_fin D b ca)) {q : Nat} (hq : 3 ≤ q ∧ q < 45) (hd : decode cc pc = .ok (.getfield 102, 3))
    (kk : rx_X p l e R s m args below meth c (rg_O (rx_fin D b ca)) H0 cells slots Q nL (rx_m (rx_fin D b ca) σ) (pc + 3) lo (.int (σ q 6) :: rest)) : rx_X p l e R s m args below meth c (rg_O (rx_fin D b ca)) H0 cells slots Q nL (rx_m (rx_fin D b ca) σ) pc lo (.ref (rg_A (rx_fin D b ca) q) :: rest) :=
  rx_getN C u_Msg rfl (k := 6) (Nat.le_of_ble_eq_true rfl) t_62 hd (rx_lt (by omega)) (rx_E_msg hq _) rfl kk
theorem g_Mob_108 (C : rx_Cw p s m args meth c R_Mob cc nL ret (rx_fin D b ca)) {j : Nat} (hj : j < 2) (hd : decode cc pc = .ok (.getfield 108, 3))
    (kk : rx_X p l e R s m args below meth c (rg_O (rx_fin D b ca)) H0 cells slots Q nL (rx_m (rx_fin D b ca) σ) (pc + 3) lo (.int (σ (46 + j) 13) :: rest)) : rx_X p l e R s m args below meth c (rg_O (rx_fin D b ca)) H0 cells slots Q nL (rx_m (rx_fin D b ca) σ) pc lo (.ref (rg_A (rx_fin D b ca) (46 + j)) :: rest) :=
  rx_get C u_Mob rfl (k := 13) (Nat.le_of_ble_eq_true rfl) (rx_in t_135 rfl) hd (rx_lt (by omega)) (rx_E_mob hj _) rfl kk
theorem g_Msg_9 (C : rx_Cw p s m args meth c R_Msg cc nL ret (rx_fin D b ca)) {q : Nat} (hq : 3 ≤ q ∧ q < 45) (hd : decode cc pc = .ok (.getfield 9, 3))
    (kk : rx_X p l e R s m args below meth c (rg_O (rx_fin D b ca)) H0 cells slots Q nL (rx_m (rx_fin D b ca) σ) (pc + 3) lo (.int (σ q 0) :: rest)) : rx_X p l e R s m args below meth c (rg_O (rx_fin D b ca)) H0 cells slots Q nL (rx_m (rx_fin D b ca) σ) pc lo (.ref (rg_A (rx_fin D b ca) q) :: rest) :=
  rx_get C u_Msg rfl (k := 0) (Nat.le_of_ble_eq_true rfl) (rx_in t_34 rfl) hd (rx_lt (by omega)) (rx_E_msg hq _) rfl kk
theorem g_Msg_15 (C : rx_Cw p s m args meth c R_Msg cc nL ret (rx_fin D b ca)) {q : Nat} (hq : 3 ≤ q ∧ q < 45) (hd : decode cc pc = .ok (.getfield 15, 3))
    (kk : rx_X p l e R s m args below meth c (rg_O (rx_fin D b ca)) H0 cells slots Q nL (rx_m (rx_fin D b ca) σ) (pc + 3) lo (.int (σ q 1) :: rest)) : rx_X p l e R s m args below meth c (rg_O (rx_fin D b ca)) H0 cells slots Q nL (rx_m (rx_fin D b ca) σ) pc lo (.ref (rg_A (rx_fin D b ca) q) :: rest) :=
  rx_get C u_Msg rfl (k := 1) (Nat.le_of_ble_eq_true rfl) (rx_in t_39 rfl) hd (rx_lt (by omega)) (rx_E_msg hq _) rfl kk
theorem g_Msg_18 (C : rx_Cw p s m args meth c R_Msg cc nL ret (rx_fin D b ca)) {q : Nat} (hq : 3 ≤ q ∧ q < 45) (hd : decode cc pc = .ok (.getfield 18, 3))
    (kk : rx_X p l e R s m args below meth c (rg_O (rx_fin D b ca)) H0 cells slots Q nL (rx_m (rx_fin D b ca) σ) (pc + 3) lo (.int (σ q 3) :: rest)) : rx_X p l e R s m args below meth c (rg_O (rx_fin D b ca)) H0 cells slots Q nL (rx_m (rx_fin D b ca) σ) pc lo (.ref (rg_A (rx_fin D b ca) q) :: rest) :=
  rx_get C u_Msg rfl (k := 3) (Nat.le_of_ble_eq_true rfl) (rx_in t_45 rfl) hd (rx_lt (by omega)) (rx_E_msg hq _) rfl kk
theorem g_Msg_21 (C : rx_Cw p s m args meth c R_Msg cc nL ret (rx_fin D b ca)) {q : Nat} (hq : 3 ≤ q ∧ q < 45) (hd : decode cc pc = .ok (.getfield 21, 3))
    (kk : rx_X p l e R s m args below meth c (rg_O (rx_fin D b ca)) H0 cells slots Q nL (rx_m (rx_fin D b ca) σ) (pc + 3) lo (.int (σ q 4) :: rest)) : rx_X p l e R s m args below meth c (rg_O (rx_fin D b ca)) H0 cells slots Q nL (rx_m (rx_fin D b ca) σ) pc lo (.ref (rg_A (rx_fin D b ca) q) :: rest) :=
  rx_get C u_Msg rfl (k := 4) (Nat.le_of_ble_eq_true rfl) (rx_in t_50 rfl) hd (rx_lt (by omega)) (rx_E_msg hq _) rfl kk
theorem g_Msg_24 (C : rx_Cw p s m args meth c R_Msg cc nL ret (rx_fin D b ca)) {q : Nat} (hq : 3 ≤ q ∧ q < 45) (hd : decode cc pc = .ok (.getfield 24, 3))
    (kk : rx_X p l e R s m args below meth c (rg_O (rx_fin D b ca)) H0 cells slots Q nL (rx_m (rx_fin D b ca) σ) (pc + 3) lo (.int (σ q 2) :: rest)) : rx_X p l e R s m args below meth c (rg_O (rx_fin D b ca)) H0 cells slots Q nL (rx_m (rx_fin D b ca) σ) pc lo (.ref (rg_A (rx_fin D b ca) q) :: rest) :=
  rx_get C u_Msg rfl (k := 2) (Nat.le_of_ble_eq_true rfl) (rx_in t_43 rfl) hd (rx_lt (by omega)) (rx_E_msg hq _) rfl kk
theorem g_Msg_27 (C : rx_Cw p s m args meth c R_Msg cc nL ret (rx_fin D b ca)) {q : Nat} (hq : 3 ≤ q ∧ q < 45) (hd : decode cc pc = .ok (.getfield 27, 3))
    (kk : rx_X p l e R s m args below meth c (rg_O (rx_fin D b ca)) H0 cells slots Q nL (rx_m (rx_fin D b ca) σ) (pc + 3) lo (.int (σ q 5) :: rest)) : rx_X p l e R s m args below meth c (rg_O (rx_fin D b ca)) H0 cells slots Q nL (rx_m (rx_fin D b ca) σ) pc lo (.ref (rg_A (rx_fin D b ca) q) :: rest) :=
  rx_get C u_Msg rfl (k := 5) (Nat.le_of_ble_eq_true rfl) (rx_in t_55 rfl) hd (rx_lt (by omega)) (rx_E_msg hq _) rfl kk
theorem g_Msg_30 (C : rx_Cw p s m args meth c R_Msg cc nL ret (rx_fin D b ca)) {q : Nat} (hq : 3 ≤ q ∧ q < 45) (hd : decode cc pc = .ok (.getfield 30, 3))
    (kk : rx_X p l e R s m args below meth c (rg_O (rx_fin D b ca)) H0 cells slots Q nL (rx_m (rx_fin D b ca) σ) (pc + 3) lo (.int (σ q 6) :: rest)) : rx_X p l e R s m args below meth c (rg_O (rx_fin D b ca)) H0 cells slots Q nL (rx_m (rx_fin D b ca) σ) pc lo (.ref (rg_A (rx_fin D b ca) q) :: rest) :=
  rx_get C u_Msg rfl (k := 6) (Nat.le_of_ble_eq_true rfl) (rx_in t_60 rfl) hd (rx_lt (by omega)) (rx_E_msg hq _) rfl kk
theorem g_Msg_33 (C : rx_Cw p s m args meth c R_Msg cc nL ret (rx_fin D b ca)) {q : Nat} (hq : 3 ≤ q ∧ q < 45) (hd : decode cc pc = .ok (.getfield 33, 3))
    (kk : rx_X p l e R s m args below meth c (rg_O (rx_fin D b ca)) H0 cells slots Q nL (rx_m (rx_fin D b ca) σ) (pc + 3) lo (.int (σ q 7) :: rest)) : rx_X p l e R s m args below meth c (rg_O (rx_fin D b ca)) H0 cells slots Q nL (rx_m (rx_fin D b ca) σ) pc lo (.ref (rg_A (rx_fin D b ca) q) :: rest) :=
  rx_get C u_Msg rfl (k := 7) (Nat.le_of_ble_eq_true rfl) (rx_in t_64 rfl) hd (rx_lt (by omega)) (rx_E_msg hq _) rfl kk
theorem g_Msg_36 (C : rx_Cw p s m args meth c R_Msg cc nL ret (rx_fin D b ca)) {q : Nat} (hq : 3 ≤ q ∧ q < 45) (hd : decode cc pc = .ok (.getfield 36, 3))
    (kk : rx_X p l e R s m args below meth c (rg_O (rx_fin D b ca)) H0 cells slots Q nL (rx_m (rx_fin D b ca) σ) (pc + 3) lo (.int (σ q 8) :: rest)) : rx_X p l e R s m args below meth c (rg_O (rx_fin D b ca)) H0 cells slots Q nL (rx_m (rx_fin D b ca) σ) pc lo (.ref (rg_A (rx_fin D b ca) q) :: rest) :=
  rx_get C u_Msg rfl (k := 8) (Nat.le_of_ble_eq_true rfl) (rx_in t_69 rfl) hd (rx_lt (by omega)) (rx_E_msg hq _) rfl kk
theorem g_Net_18 (C : rx_Cw p s m args meth c R_Net cc nL ret (rx_fin D b ca))  (hd : decode cc pc = .ok (.getfield 18, 3))
    (kk : rx_X p l e R s m args below meth c (rg_O (rx_fin D b ca)) H0 cells slots Q nL (rx_m (rx_fin D b ca) σ) (pc + 3) lo (.ref (rg_A (rx_fin D b ca) 1) :: rest)) : rx_X p l e R s m args below meth c (rg_O (rx_fin D b ca)) H0 cells slots Q nL (rx_m (rx_fin D b ca) σ) pc lo (.ref (rg_A (rx_fin D b ca) 0) :: rest) :=
  rx_get C u_Net rfl (k := 0) (Nat.le_of_ble_eq_true rfl) (rx_in t_247 rfl) hd (rx_lt (by omega)) rfl rfl kk
theorem g_Net_25 (C : rx_Cw p s m args meth c R_Net cc nL ret (rx_fin D b ca))  (hd : decode cc pc = .ok (.getfield 25, 3))
    (kk : rx_X p l e R s m args below meth c (rg_O (rx_fin D b ca)) H0 cells slots Q nL (rx_m (rx_fin D b ca) σ) (pc + 3) lo (.ref (rg_A (rx_fin D b ca) 44) :: rest)) : rx_X p l e R s m args below meth c (rg_O (rx_fin D b ca)) H0 cells slots Q nL (rx_m (rx_fin D b ca) σ) pc lo (.ref (rg_A (rx_fin D b ca) 0) :: rest) :=
  rx_get C u_Net rfl (k := 1) (Nat.le_of_ble_eq_true rfl) (rx_in t_248 rfl) hd (rx_lt (by omega)) rfl rfl kk
theorem g_Net_31 (C : rx_Cw p s m args meth c R_Net cc nL ret (rx_fin D b ca))  (hd : decode cc pc = .ok (.getfield 31, 3))
    (kk : rx_X p l e R s m args below meth c (rg_O (rx_fin D b ca)) H0 cells slots Q nL (rx_m (rx_fin D b ca) σ) (pc + 3) lo (.ref (rg_A (rx_fin D b ca) 45) :: rest)) : rx_X p l e R s m args below meth c (rg_O (rx_fin D b ca)) H0 cells slots Q nL (rx_m (rx_fin D b ca) σ) pc lo (.ref (rg_A (rx_fin D b ca) 0) :: rest) :=
  rx_get C u_Net rfl (k := 2) (Nat.le_of_ble_eq_true rfl) (rx_in t_249 rfl) hd (rx_lt (by omega)) rfl rfl kk
theorem g_Net_43 (C : rx_Cw p s m args meth c R_Net cc nL ret (rx_fin D b ca))  (hd : decode cc pc = .ok (.getfield 43, 3))
    (kk : rx_X p l e R s m args below meth c (rg_O (rx_fin D b ca)) H0 cells slots Q nL (rx_m (rx_fin D b ca) σ) (pc + 3) lo (.ref (rg_A (rx_fin D b ca) 48) :: rest)) : rx_X p l e R s m args below meth c (rg_O (rx_fin D b ca)) H0 cells slots Q nL (rx_m (rx_fin D b ca) σ) pc lo (.ref (rg_A (rx_fin D b ca) 0) :: rest) :=
  rx_get C u_Net rfl (k := 3) (Nat.le_of_ble_eq_true rfl) (rx_in t_250 rfl) hd (rx_lt (by omega)) rfl rfl kk
theorem g_Net_49 (C : rx_Cw p s m args meth c R_Net cc nL ret (rx_fin D b ca))  (hd : decode cc pc = .ok (.getfield 49, 3))
    (kk : rx_X p l e R s m args below meth c (rg_O (rx_fin D b ca)) H0 cells slots Q nL (rx_m (rx_fin D b ca) σ) (pc + 3) lo (.ref (rg_A (rx_fin D b ca) 53) :: rest)) : rx_X p l e R s m args below meth c (rg_O (rx_fin D b ca)) H0 cells slots Q nL (rx_m (rx_fin D b ca) σ) pc lo (.ref (rg_A (rx_fin D b ca) 0) :: rest) :=
  rx_get C u_Net rfl (k := 4) (Nat.le_of_ble_eq_true rfl) (rx_in t_251 rfl) hd (rx_lt (by omega)) rfl rfl kk
theorem g_Net_59 (C : rx_Cw p s m args meth c R_Net cc nL ret (rx_fin D b ca))  (hd : decode cc pc = .ok (.getfield 59, 3))
    (kk : rx_X p l e R s m args below meth c (rg_O (rx_fin D b ca)) H0 cells slots Q nL (rx_m (rx_fin D b ca) σ) (pc + 3) lo (.ref (rg_A (rx_fin D b ca) 66) :: rest)) : rx_X p l e R s m args below meth c (rg_O (rx_fin D b ca)) H0 cells slots Q nL (rx_m (rx_fin D b ca) σ) pc lo (.ref (rg_A (rx_fin D b ca) 0) :: rest) :=
  rx_get C u_Net rfl (k := 5) (Nat.le_of_ble_eq_true rfl) (rx_in t_252 rfl) hd (rx_lt (by omega)) rfl rfl kk
theorem g_Net_71 (C : rx_Cw p s m args meth c R_Net cc nL ret (rx_fin D b ca))  (hd : decode cc pc = .ok (.getfield 71, 3))
    (kk : rx_X p l e R s m args below meth c (rg_O (rx_fin D b ca)) H0 cells slots Q nL (rx_m (rx_fin D b ca) σ) (pc + 3) lo (.ref (rg_A (rx_fin D b ca) 49) :: rest)) : rx_X p l e R s m args below meth c (rg_O (rx_fin D b ca)) H0 cells slots Q nL (rx_m (rx_fin D b ca) σ) pc lo (.ref (rg_A (rx_fin D b ca) 48) :: rest) :=
  rx_getN C u_Home rfl (k := 2) (Nat.le_of_ble_eq_true rfl) t_175 hd (rx_lt (by omega)) rfl rfl kk
theorem g_Net_75 (C : rx_Cw p s m args meth c R_Net cc nL ret (rx_fin D b ca)) {j : Nat} (hj : j < 2) (hd : decode cc pc = .ok (.getfield 75, 3))
    (kk : rx_X p l e R s m args below meth c (rg_O (rx_fin D b ca)) H0 cells slots Q nL (rx_m (rx_fin D b ca) σ) (pc + 3) lo (.int (σ (46 + j) 4) :: rest)) : rx_X p l e R s m args below meth c (rg_O (rx_fin D b ca)) H0 cells slots Q nL (rx_m (rx_fin D b ca) σ) pc lo (.ref (rg_A (rx_fin D b ca) (46 + j)) :: rest) :=
  rx_getN C u_Mob rfl (k := 4) (Nat.le_of_ble_eq_true rfl) t_124 hd (rx_lt (by omega)) (rx_E_mob hj _) rfl kk
theorem g_Net_81 (C : rx_Cw p s m args meth c R_Net cc nL ret (rx_fin D b ca))  (hd : decode cc pc = .ok (.getfield 81, 3))
    (kk : rx_X p l e R s m args below meth c (rg_O (rx_fin D b ca)) H0 cells slots Q nL (rx_m (rx_fin D b ca) σ) (pc + 3) lo (.ref (rg_A (rx_fin D b ca) 67) :: rest)) : rx_X p l e R s m args below meth c (rg_O (rx_fin D b ca)) H0 cells slots Q nL (rx_m (rx_fin D b ca) σ) pc lo (.ref (rg_A (rx_fin D b ca) 66) :: rest) :=
  rx_getN C u_Corr rfl (k := 1) (Nat.le_of_ble_eq_true rfl) t_230 hd (rx_lt (by omega)) rfl rfl kk
theorem g_Net_91 (C : rx_Cw p s m args meth c R_Net cc nL ret (rx_fin D b ca))  (hd : decode cc pc = .ok (.getfield 91, 3))
    (kk : rx_X p l e R s m args below meth c (rg_O (rx_fin D b ca)) H0 cells slots Q nL (rx_m (rx_fin D b ca) σ) (pc + 3) lo (.ref (rg_A (rx_fin D b ca) 2) :: rest)) : rx_X p l e R s m args below meth c (rg_O (rx_fin D b ca)) H0 cells slots Q nL (rx_m (rx_fin D b ca) σ) pc lo (.ref (rg_A (rx_fin D b ca) 1) :: rest) :=
  rx_getN C u_Wire rfl (k := 0) (Nat.le_of_ble_eq_true rfl) t_93 hd (rx_lt (by omega)) rfl rfl kk
theorem g_Net_129 (C : rx_Cw p s m args meth c R_Net cc nL ret (rx_fin D b ca))  (hd : decode cc pc = .ok (.getfield 129, 3))
    (kk : rx_X p l e R s m args below meth c (rg_O (rx_fin D b ca)) H0 cells slots Q nL (rx_m (rx_fin D b ca) σ) (pc + 3) lo (.int (σ 1 1) :: rest)) : rx_X p l e R s m args below meth c (rg_O (rx_fin D b ca)) H0 cells slots Q nL (rx_m (rx_fin D b ca) σ) pc lo (.ref (rg_A (rx_fin D b ca) 1) :: rest) :=
  rx_getN C u_Wire rfl (k := 1) (Nat.le_of_ble_eq_true rfl) t_95 hd (rx_lt (by omega)) rfl rfl kk
theorem g_Net_136 (C : rx_Cw p s m args meth c R_Net cc nL ret (rx_fin D b ca)) {j : Nat} (hj : j < 2) (hd : decode cc pc = .ok (.getfield 136, 3))
    (kk : rx_X p l e R s m args below meth c (rg_O (rx_fin D b ca)) H0 cells slots Q nL (rx_m (rx_fin D b ca) σ) (pc + 3) lo (.int (σ (46 + j) 6) :: rest)) : rx_X p l e R s m args below meth c (rg_O (rx_fin D b ca)) H0 cells slots Q nL (rx_m (rx_fin D b ca) σ) pc lo (.ref (rg_A (rx_fin D b ca) (46 + j)) :: rest) :=
  rx_getN C u_Mob rfl (k := 6) (Nat.le_of_ble_eq_true rfl) t_127 hd (rx_lt (by omega)) (rx_E_mob hj _) rfl kk
theorem g_Net_139 (C : rx_Cw p s m args meth c R_Net cc nL ret (rx_fin D b ca)) {j : Nat} (hj : j < 2) (hd : decode cc pc = .ok (.getfield 139, 3))
    (kk : rx_X p l e R s m args below meth c (rg_O (rx_fin D b ca)) H0 cells slots Q nL (rx_m (rx_fin D b ca) σ) (pc + 3) lo (.int (σ (46 + j) 10) :: rest)) : rx_X p l e R s m args below meth c (rg_O (rx_fin D b ca)) H0 cells slots Q nL (rx_m (rx_fin D b ca) σ) pc lo (.ref (rg_A (rx_fin D b ca) (46 + j)) :: rest) :=
  rx_getN C u_Mob rfl (k := 10) (Nat.le_of_ble_eq_true rfl) t_132 hd (rx_lt (by omega)) (rx_E_mob hj _) rfl kk
theorem g_Net_145 (C : rx_Cw p s m args meth c R_Net cc nL ret (rx_fin D b ca))  (hd : decode cc pc = .ok (.getfield 145, 3))
    (kk : rx_X p l e R s m args below meth c (rg_O (rx_fin D b ca)) H0 cells slots Q nL (rx_m (rx_fin D b ca) σ) (pc + 3) lo (.ref (rg_A (rx_fin D b ca) 51) :: rest)) : rx_X p l e R s m args below meth c (rg_O (rx_fin D b ca)) H0 cells slots Q nL (rx_m (rx_fin D b ca) σ) pc lo (.ref (rg_A (rx_fin D b ca) 48) :: rest) :=
  rx_getN C u_Home rfl (k := 4) (Nat.le_of_ble_eq_true rfl) t_178 hd (rx_lt (by omega)) rfl rfl kk
theorem g_Net_147 (C : rx_Cw p s m args meth c R_Net cc nL ret (rx_fin D b ca))  (hd : decode cc pc = .ok (.getfield 147, 3))
    (kk : rx_X p l e R s m args below meth c (rg_O (rx_fin D b ca)) H0 cells slots Q nL (rx_m (rx_fin D b ca) σ) (pc + 3) lo (.ref (rg_A (rx_fin D b ca) 52) :: rest)) : rx_X p l e R s m args below meth c (rg_O (rx_fin D b ca)) H0 cells slots Q nL (rx_m (rx_fin D b ca) σ) pc lo (.ref (rg_A (rx_fin D b ca) 48) :: rest) :=
  rx_getN C u_Home rfl (k := 5) (Nat.le_of_ble_eq_true rfl) t_180 hd (rx_lt (by omega)) rfl rfl kk
theorem g_Net_150 (C : rx_Cw p s m args meth c R_Net cc nL ret (rx_fin D b ca))  (hd : decode cc pc = .ok (.getfield 150, 3))
    (kk : rx_X p l e R s m args below meth c (rg_O (rx_fin D b ca)) H0 cells slots Q nL (rx_m (rx_fin D b ca) σ) (pc + 3) lo (.int (σ 1 2) :: rest)) : rx_X p l e R s m args below meth c (rg_O (rx_fin D b ca)) H0 cells slots Q nL (rx_m (rx_fin D b ca) σ) pc lo (.ref (rg_A (rx_fin D b ca) 1) :: rest) :=
  rx_getN C u_Wire rfl (k := 2) (Nat.le_of_ble_eq_true rfl) t_100 hd (rx_lt (by omega)) rfl rfl kk
theorem g_Net_156 (C : rx_Cw p s m args meth c R_Net cc nL ret (rx_fin D b ca)) {a : Nat} (ha : a < 3) (hd : decode cc pc = .ok (.getfield 156, 3))
    (kk : rx_X p l e R s m args below meth c (rg_O (rx_fin D b ca)) H0 cells slots Q nL (rx_m (rx_fin D b ca) σ) (pc + 3) lo (.ref (rg_A (rx_fin D b ca) ((54 + 4 * a) + 1)) :: rest)) : rx_X p l e R s m args below meth c (rg_O (rx_fin D b ca)) H0 cells slots Q nL (rx_m (rx_fin D b ca) σ) pc lo (.ref (rg_A (rx_fin D b ca) (54 + 4 * a)) :: rest) :=
  rx_getN C u_Fa rfl (k := 3) (Nat.le_of_ble_eq_true rfl) t_206 hd (rx_lt (by omega)) (rx_E_fa ha _) rfl kk
theorem g_Net_159 (C : rx_Cw p s m args meth c R_Net cc nL ret (rx_fin D b ca)) {j : Nat} (hj : j < 2) (hd : decode cc pc = .ok (.getfield 159, 3))
    (kk : rx_X p l e R s m args below meth c (rg_O (rx_fin D b ca)) H0 cells slots Q nL (rx_m (rx_fin D b ca) σ) (pc + 3) lo (.int (σ (46 + j) 13) :: rest)) : rx_X p l e R s m args below meth c (rg_O (rx_fin D b ca)) H0 cells slots Q nL (rx_m (rx_fin D b ca) σ) pc lo (.ref (rg_A (rx_fin D b ca) (46 + j)) :: rest) :=
  rx_getN C u_Mob rfl (k := 13) (Nat.le_of_ble_eq_true rfl) t_136 hd (rx_lt (by omega)) (rx_E_mob hj _) rfl kk
theorem g_Net_162 (C : rx_Cw p s m args meth c R_Net cc nL ret (rx_fin D b ca))  (hd : decode cc pc = .ok (.getfield 162, 3))
    (kk : rx_X p l e R s m args below meth c (rg_O (rx_fin D b ca)) H0 cells slots Q nL (rx_m (rx_fin D b ca) σ) (pc + 3) lo (.ref (rg_A (rx_fin D b ca) 68) :: rest)) : rx_X p l e R s m args below meth c (rg_O (rx_fin D b ca)) H0 cells slots Q nL (rx_m (rx_fin D b ca) σ) pc lo (.ref (rg_A (rx_fin D b ca) 66) :: rest) :=
  rx_getN C u_Corr rfl (k := 2) (Nat.le_of_ble_eq_true rfl) t_232 hd (rx_lt (by omega)) rfl rfl kk
theorem g_Net_165 (C : rx_Cw p s m args meth c R_Net cc nL ret (rx_fin D b ca))  (hd : decode cc pc = .ok (.getfield 165, 3))
    (kk : rx_X p l e R s m args below meth c (rg_O (rx_fin D b ca)) H0 cells slots Q nL (rx_m (rx_fin D b ca) σ) (pc + 3) lo (.ref (rg_A (rx_fin D b ca) 69) :: rest)) : rx_X p l e R s m args below meth c (rg_O (rx_fin D b ca)) H0 cells slots Q nL (rx_m (rx_fin D b ca) σ) pc lo (.ref (rg_A (rx_fin D b ca) 66) :: rest) :=
  rx_getN C u_Corr rfl (k := 3) (Nat.le_of_ble_eq_true rfl) t_234 hd (rx_lt (by omega)) rfl rfl kk
theorem g_Net_180 (C : rx_Cw p s m args meth c R_Net cc nL ret (rx_fin D b ca)) {q : Nat} (hq : 3 ≤ q ∧ q < 45) (hd : decode cc pc = .ok (.getfield 180, 3))
    (kk : rx_X p l e R s m args below meth c (rg_O (rx_fin D b ca)) H0 cells slots Q nL (rx_m (rx_fin D b ca) σ) (pc + 3) lo (.int (σ q 1) :: rest)) : rx_X p l e R s m args below meth c (rg_O (rx_fin D b ca)) H0 cells slots Q nL (rx_m (rx_fin D b ca) σ) pc lo (.ref (rg_A (rx_fin D b ca) q) :: rest) :=
  rx_getN C u_Msg rfl (k := 1) (Nat.le_of_ble_eq_true rfl) t_41 hd (rx_lt (by omega)) (rx_E_msg hq _) rfl kk
theorem g_Net_183 (C : rx_Cw p s m args meth c R_Net cc nL ret (rx_fin D b ca)) {q : Nat} (hq : 3 ≤ q ∧ q < 45) (hd : decode cc pc = .ok (.getfield 183, 3))
    (kk : rx_X p l e R s m args below meth c (rg_O (rx_fin D b ca)) H0 cells slots Q nL (rx_m (rx_fin D b ca) σ) (pc + 3) lo (.int (σ q 3) :: rest)) : rx_X p l e R s m args below meth c (rg_O (rx_fin D b ca)) H0 cells slots Q nL (rx_m (rx_fin D b ca) σ) pc lo (.ref (rg_A (rx_fin D b ca) q) :: rest) :=
  rx_getN C u_Msg rfl (k := 3) (Nat.le_of_ble_eq_true rfl) t_49 hd (rx_lt (by omega)) (rx_E_msg hq _) rfl kk
theorem g_Wire_11 (C : rx_Cw p s m args meth c R_Wire cc nL ret (rx_fin D b ca))  (hd : decode cc pc = .ok (.getfield 11, 3))
    (kk : rx_X p l e R s m args below meth c (rg_O (rx_fin D b ca)) H0 cells slots Q nL (rx_m (rx_fin D b ca) σ) (pc + 3) lo (.ref (rg_A (rx_fin D b ca) 2) :: rest)) : rx_X p l e R s m args below meth c (rg_O (rx_fin D b ca)) H0 cells slots Q nL (rx_m (rx_fin D b ca) σ) pc lo (.ref (rg_A (rx_fin D b ca) 1) :: rest) :=
  rx_get C u_Wire rfl (k := 0) (Nat.le_of_ble_eq_true rfl) (rx_in t_92 rfl) hd (rx_lt (by omega)) rfl rfl kk
theorem g_Wire_18 (C : rx_Cw p s m args meth c R_Wire cc nL ret (rx_fin D b ca))  (hd : decode cc pc = .ok (.getfield 18, 3))
    (kk : rx_X p l e R s m args below meth c (rg_O (rx_fin D b ca)) H0 cells slots Q nL (rx_m (rx_fin D b ca) σ) (pc + 3) lo (.int (σ 1 1) :: rest)) : rx_X p l e R s m args below meth c (rg_O (rx_fin D b ca)) H0 cells slots Q nL (rx_m (rx_fin D b ca) σ) pc lo (.ref (rg_A (rx_fin D b ca) 1) :: rest) :=
  rx_get C u_Wire rfl (k := 1) (Nat.le_of_ble_eq_true rfl) (rx_in t_94 rfl) hd (rx_lt (by omega)) rfl rfl kk
theorem rx_min (C : rx_Cw p s m args meth c R_Home cc nL ret (rx_fin D b ca)) {x y : Int32} (hd : decode cc pc = .ok (.invokestatic 63, 3)) (hR : 1 ≤ R.frames) (hL : (rest.map fun v => v.category).sum + 13 ≤ R.locals) (hf : cells ≤ R.cells ∧ slots ≤ R.slots)
    (kk : rx_X p l e R s m args below meth c (rg_O (rx_fin D b ca)) H0 cells slots Q nL (rx_m (rx_fin D b ca) σ) (pc + 3) lo (.int (if y < x then y else x) :: rest)) : rx_X p l e R s m args below meth c (rg_O (rx_fin D b ca)) H0 cells slots Q nL (rx_m (rx_fin D b ca) σ) pc lo (.int y :: .int x :: rest) :=
  fun H locs ls hP hS hl => va_mmin C.1.1 C.1.2.1 (C.1.2.2.1.trans hl.size.symm) C.1.2.2.2.1 (C.1.2.2.2.2.1 _ (rx_in t_401 rfl)) (C.1.2.2.2.2.1 _ (rx_in t_402 rfl)) (C.1.2.2.2.2.1 _ (rx_in t_9 rfl)) (C.1.2.2.2.2.1 _ (rx_in t_403 rfl)) hR hL hf.1 hf.2 hd (kk H locs ls hP hS hl)
theorem p_Fa_69 (C : rx_Cw p s m args meth c R_Fa cc nL ret (rx_fin D b ca)) {q : Nat} (hq : 3 ≤ q ∧ q < 45) {x : Int32} (hd : decode cc pc = .ok (.putfield 69, 3))
    (kk : rx_X p l e R s m args below meth c (rg_O (rx_fin D b ca)) H0 cells slots Q nL (rx_m (rx_fin D b ca) (rx_wr σ q 5 x)) (pc + 3) lo rest) : rx_X p l e R s m args below meth c (rg_O (rx_fin D b ca)) H0 cells slots Q nL (rx_m (rx_fin D b ca) σ) pc lo (.int x :: .ref (rg_A (rx_fin D b ca) q) :: rest) :=
  rx_putN C u_Msg t_Msg_ok n_Msg rfl (k := 5) (Nat.le_of_ble_eq_true rfl) t_58 rfl (by decide +kernel) hd (rx_lt (by omega)) (rx_E_msg hq _) (Nat.le_of_ble_eq_true rfl) (rx_E_msg hq (upd (σ q) 5 x)).symm (rx_SI_wr (by omega)) kk
theorem p_Fa_80 (C : rx_Cw p s m args meth c R_Fa cc nL ret (rx_fin D b ca)) {q : Nat} (hq : 3 ≤ q ∧ q < 45) {x : Int32} (hd : decode cc pc = .ok (.putfield 80, 3))
    (kk : rx_X p l e R s m args below meth c (rg_O (rx_fin D b ca)) H0 cells slots Q nL (rx_m (rx_fin D b ca) (rx_wr σ q 6 x)) (pc + 3) lo rest) : rx_X p l e R s m args below meth c (rg_O (rx_fin D b ca)) H0 cells slots Q nL (rx_m (rx_fin D b ca) σ) pc lo (.int x :: .ref (rg_A (rx_fin D b ca) q) :: rest) :=
  rx_putN C u_Msg t_Msg_ok n_Msg rfl (k := 6) (Nat.le_of_ble_eq_true rfl) t_63 rfl (by decide +kernel) hd (rx_lt (by omega)) (rx_E_msg hq _) (Nat.le_of_ble_eq_true rfl) (rx_E_msg hq (upd (σ q) 6 x)).symm (rx_SI_wr (by omega)) kk
theorem p_Home_60 (C : rx_Cw p s m args meth c R_Home cc nL ret (rx_fin D b ca)) {q : Nat} (hq : 3 ≤ q ∧ q < 45) {x : Int32} (hd : decode cc pc = .ok (.putfield 60, 3))
    (kk : rx_X p l e R s m args below meth c (rg_O (rx_fin D b ca)) H0 cells slots Q nL (rx_m (rx_fin D b ca) (rx_wr σ q 7 x)) (pc + 3) lo rest) : rx_X p l e R s m args below meth c (rg_O (rx_fin D b ca)) H0 cells slots Q nL (rx_m (rx_fin D b ca) σ) pc lo (.int x :: .ref (rg_A (rx_fin D b ca) q) :: rest) :=
  rx_putN C u_Msg t_Msg_ok n_Msg rfl (k := 7) (Nat.le_of_ble_eq_true rfl) t_65 rfl (by decide +kernel) hd (rx_lt (by omega)) (rx_E_msg hq _) (Nat.le_of_ble_eq_true rfl) (rx_E_msg hq (upd (σ q) 7 x)).symm (rx_SI_wr (by omega)) kk
theorem p_Home_69 (C : rx_Cw p s m args meth c R_Home cc nL ret (rx_fin D b ca)) {q : Nat} (hq : 3 ≤ q ∧ q < 45) {x : Int32} (hd : decode cc pc = .ok (.putfield 69, 3))
    (kk : rx_X p l e R s m args below meth c (rg_O (rx_fin D b ca)) H0 cells slots Q nL (rx_m (rx_fin D b ca) (rx_wr σ q 5 x)) (pc + 3) lo rest) : rx_X p l e R s m args below meth c (rg_O (rx_fin D b ca)) H0 cells slots Q nL (rx_m (rx_fin D b ca) σ) pc lo (.int x :: .ref (rg_A (rx_fin D b ca) q) :: rest) :=
  rx_putN C u_Msg t_Msg_ok n_Msg rfl (k := 5) (Nat.le_of_ble_eq_true rfl) t_56 rfl (by decide +kernel) hd (rx_lt (by omega)) (rx_E_msg hq _) (Nat.le_of_ble_eq_true rfl) (rx_E_msg hq (upd (σ q) 5 x)).symm (rx_SI_wr (by omega)) kk
theorem p_Home_78 (C : rx_Cw p s m args meth c R_Home cc nL ret (rx_fin D b ca)) {q : Nat} (hq : 3 ≤ q ∧ q < 45) {x : Int32} (hd : decode cc pc = .ok (.putfield 78, 3))
    (kk : rx_X p l e R s m args below meth c (rg_O (rx_fin D b ca)) H0 cells slots Q nL (rx_m (rx_fin D b ca) (rx_wr σ q 6 x)) (pc + 3) lo rest) : rx_X p l e R s m args below meth c (rg_O (rx_fin D b ca)) H0 cells slots Q nL (rx_m (rx_fin D b ca) σ) pc lo (.int x :: .ref (rg_A (rx_fin D b ca) q) :: rest) :=
  rx_putN C u_Msg t_Msg_ok n_Msg rfl (k := 6) (Nat.le_of_ble_eq_true rfl) t_61 rfl (by decide +kernel) hd (rx_lt (by omega)) (rx_E_msg hq _) (Nat.le_of_ble_eq_true rfl) (rx_E_msg hq (upd (σ q) 6 x)).symm (rx_SI_wr (by omega)) kk
theorem p_Home_85 (C : rx_Cw p s m args meth c R_Home cc nL ret (rx_fin D b ca)) {q : Nat} (hq : 3 ≤ q ∧ q < 45) {x : Int32} (hd : decode cc pc = .ok (.putfield 85, 3))
    (kk : rx_X p l e R s m args below meth c (rg_O (rx_fin D b ca)) H0 cells slots Q nL (rx_m (rx_fin D b ca) (rx_wr σ q 8 x)) (pc + 3) lo rest) : rx_X p l e R s m args below meth c (rg_O (rx_fin D b ca)) H0 cells slots Q nL (rx_m (rx_fin D b ca) σ) pc lo (.int x :: .ref (rg_A (rx_fin D b ca) q) :: rest) :=
  rx_putN C u_Msg t_Msg_ok n_Msg rfl (k := 8) (Nat.le_of_ble_eq_true rfl) t_70 rfl (by decide +kernel) hd (rx_lt (by omega)) (rx_E_msg hq _) (Nat.le_of_ble_eq_true rfl) (rx_E_msg hq (upd (σ q) 8 x)).symm (rx_SI_wr (by omega)) kk
theorem p_Mob_22 (C : rx_Cw p s m args meth c R_Mob cc nL ret (rx_fin D b ca)) {j : Nat} (hj : j < 2) {x : Int32} (hd : decode cc pc = .ok (.putfield 22, 3))
    (kk : rx_X p l e R s m args below meth c (rg_O (rx_fin D b ca)) H0 cells slots Q nL (rx_m (rx_fin D b ca) (rx_wr σ (46 + j) 6 x)) (pc + 3) lo rest) : rx_X p l e R s m args below meth c (rg_O (rx_fin D b ca)) H0 cells slots Q nL (rx_m (rx_fin D b ca) σ) pc lo (.int x :: .ref (rg_A (rx_fin D b ca) (46 + j)) :: rest) :=
  rx_put C u_Mob t_Mob_ok n_Mob rfl (k := 6) (Nat.le_of_ble_eq_true rfl) (rx_in t_126 rfl) rfl (by decide +kernel) hd (rx_lt (by omega)) (rx_E_mob hj _) (Nat.le_of_ble_eq_true rfl) (rx_E_mob hj (upd (σ (46 + j)) 6 x)).symm (rx_SI_wr (by omega)) kk
theorem p_Mob_26 (C : rx_Cw p s m args meth c R_Mob cc nL ret (rx_fin D b ca)) {j : Nat} (hj : j < 2) {x : Int32} (hd : decode cc pc = .ok (.putfield 26, 3))
    (kk : rx_X p l e R s m args below meth c (rg_O (rx_fin D b ca)) H0 cells slots Q nL (rx_m (rx_fin D b ca) (rx_wr σ (46 + j) 7 x)) (pc + 3) lo rest) : rx_X p l e R s m args below meth c (rg_O (rx_fin D b ca)) H0 cells slots Q nL (rx_m (rx_fin D b ca) σ) pc lo (.int x :: .ref (rg_A (rx_fin D b ca) (46 + j)) :: rest) :=
  rx_put C u_Mob t_Mob_ok n_Mob rfl (k := 7) (Nat.le_of_ble_eq_true rfl) (rx_in t_128 rfl) rfl (by decide +kernel) hd (rx_lt (by omega)) (rx_E_mob hj _) (Nat.le_of_ble_eq_true rfl) (rx_E_mob hj (upd (σ (46 + j)) 7 x)).symm (rx_SI_wr (by omega)) kk
theorem p_Mob_29 (C : rx_Cw p s m args meth c R_Mob cc nL ret (rx_fin D b ca)) {j : Nat} (hj : j < 2) {x : Int32} (hd : decode cc pc = .ok (.putfield 29, 3))
    (kk : rx_X p l e R s m args below meth c (rg_O (rx_fin D b ca)) H0 cells slots Q nL (rx_m (rx_fin D b ca) (rx_wr σ (46 + j) 8 x)) (pc + 3) lo rest) : rx_X p l e R s m args below meth c (rg_O (rx_fin D b ca)) H0 cells slots Q nL (rx_m (rx_fin D b ca) σ) pc lo (.int x :: .ref (rg_A (rx_fin D b ca) (46 + j)) :: rest) :=
  rx_put C u_Mob t_Mob_ok n_Mob rfl (k := 8) (Nat.le_of_ble_eq_true rfl) (rx_in t_129 rfl) rfl (by decide +kernel) hd (rx_lt (by omega)) (rx_E_mob hj _) (Nat.le_of_ble_eq_true rfl) (rx_E_mob hj (upd (σ (46 + j)) 8 x)).symm (rx_SI_wr (by omega)) kk
theorem p_Mob_60 (C : rx_Cw p s m args meth c R_Mob cc nL ret (rx_fin D b ca)) {j : Nat} (hj : j < 2) {x : Int32} (hd : decode cc pc = .ok (.putfield 60, 3))
    (kk : rx_X p l e R s m args below meth c (rg_O (rx_fin D b ca)) H0 cells slots Q nL (rx_m (rx_fin D b ca) (rx_wr σ (46 + j) 9 x)) (pc + 3) lo rest) : rx_X p l e R s m args below meth c (rg_O (rx_fin D b ca)) H0 cells slots Q nL (rx_m (rx_fin D b ca) σ) pc lo (.int x :: .ref (rg_A (rx_fin D b ca) (46 + j)) :: rest) :=
  rx_put C u_Mob t_Mob_ok n_Mob rfl (k := 9) (Nat.le_of_ble_eq_true rfl) (rx_in t_130 rfl) rfl (by decide +kernel) hd (rx_lt (by omega)) (rx_E_mob hj _) (Nat.le_of_ble_eq_true rfl) (rx_E_mob hj (upd (σ (46 + j)) 9 x)).symm (rx_SI_wr (by omega)) kk
theorem p_Mob_63 (C : rx_Cw p s m args meth c R_Mob cc nL ret (rx_fin D b ca)) {j : Nat} (hj : j < 2) {x : Int32} (hd : decode cc pc = .ok (.putfield 63, 3))
    (kk : rx_X p l e R s m args below meth c (rg_O (rx_fin D b ca)) H0 cells slots Q nL (rx_m (rx_fin D b ca) (rx_wr σ (46 + j) 10 x)) (pc + 3) lo rest) : rx_X p l e R s m args below meth c (rg_O (rx_fin D b ca)) H0 cells slots Q nL (rx_m (rx_fin D b ca) σ) pc lo (.int x :: .ref (rg_A (rx_fin D b ca) (46 + j)) :: rest) :=
  rx_put C u_Mob t_Mob_ok n_Mob rfl (k := 10) (Nat.le_of_ble_eq_true rfl) (rx_in t_131 rfl) rfl (by decide +kernel) hd (rx_lt (by omega)) (rx_E_mob hj _) (Nat.le_of_ble_eq_true rfl) (rx_E_mob hj (upd (σ (46 + j)) 10 x)).symm (rx_SI_wr (by omega)) kk
theorem p_Mob_66 (C : rx_Cw p s m args meth c R_Mob cc nL ret (rx_fin D b ca)) {j : Nat} (hj : j < 2) {x : Int32} (hd : decode cc pc = .ok (.putfield 66, 3))
    (kk : rx_X p l e R s m args below meth c (rg_O (rx_fin D b ca)) H0 cells slots Q nL (rx_m (rx_fin D b ca) (rx_wr σ (46 + j) 11 x)) (pc + 3) lo rest) : rx_X p l e R s m args below meth c (rg_O (rx_fin D b ca)) H0 cells slots Q nL (rx_m (rx_fin D b ca) σ) pc lo (.int x :: .ref (rg_A (rx_fin D b ca) (46 + j)) :: rest) :=
  rx_put C u_Mob t_Mob_ok n_Mob rfl (k := 11) (Nat.le_of_ble_eq_true rfl) (rx_in t_133 rfl) rfl (by decide +kernel) hd (rx_lt (by omega)) (rx_E_mob hj _) (Nat.le_of_ble_eq_true rfl) (rx_E_mob hj (upd (σ (46 + j)) 11 x)).symm (rx_SI_wr (by omega)) kk
theorem p_Mob_76 (C : rx_Cw p s m args meth c R_Mob cc nL ret (rx_fin D b ca)) {j : Nat} (hj : j < 2) {x : Int32} (hd : decode cc pc = .ok (.putfield 76, 3))
    (kk : rx_X p l e R s m args below meth c (rg_O (rx_fin D b ca)) H0 cells slots Q nL (rx_m (rx_fin D b ca) (rx_wr σ (46 + j) 5 x)) (pc + 3) lo rest) : rx_X p l e R s m args below meth c (rg_O (rx_fin D b ca)) H0 cells slots Q nL (rx_m (rx_fin D b ca) σ) pc lo (.int x :: .ref (rg_A (rx_fin D b ca) (46 + j)) :: rest) :=
  rx_put C u_Mob t_Mob_ok n_Mob rfl (k := 5) (Nat.le_of_ble_eq_true rfl) (rx_in t_125 rfl) rfl (by decide +kernel) hd (rx_lt (by omega)) (rx_E_mob hj _) (Nat.le_of_ble_eq_true rfl) (rx_E_mob hj (upd (σ (46 + j)) 5 x)).symm (rx_SI_wr (by omega)) kk
theorem p_Mob_83 (C : rx_Cw p s m args meth c R_Mob cc nL ret (rx_fin D b ca)) {q : Nat} (hq : 3 ≤ q ∧ q < 45) {x : Int32} (hd : decode cc pc = .ok (.putfield 83, 3))
    (kk : rx_X p l e R s m args below meth c (rg_O (rx_fin D b ca)) H0 cells slots Q nL (rx_m (rx_fin D b ca) (rx_wr σ q 5 x)) (pc + 3) lo rest) : rx_X p l e R s m args below meth c (rg_O (rx_fin D b ca)) H0 cells slots Q nL (rx_m (rx_fin D b ca) σ) pc lo (.int x :: .ref (rg_A (rx_fin D b ca) q) :: rest) :=
  rx_putN C u_Msg t_Msg_ok n_Msg rfl (k := 5) (Nat.le_of_ble_eq_true rfl) t_57 rfl (by decide +kernel) hd (rx_lt (by omega)) (rx_E_msg hq _) (Nat.le_of_ble_eq_true rfl) (rx_E_msg hq (upd (σ q) 5 x)).symm (rx_SI_wr (by omega)) kk
theorem p_Mob_86 (C : rx_Cw p s m args meth c R_Mob cc nL ret (rx_fin D b ca)) {q : Nat} (hq : 3 ≤ q ∧ q < 45) {x : Int32} (hd : decode cc pc = .ok (.putfield 86, 3))
    (kk : rx_X p l e R s m args below meth c (rg_O (rx_fin D b ca)) H0 cells slots Q nL (rx_m (rx_fin D b ca) (rx_wr σ q 7 x)) (pc + 3) lo rest) : rx_X p l e R s m args below meth c (rg_O (rx_fin D b ca)) H0 cells slots Q nL (rx_m (rx_fin D b ca) σ) pc lo (.int x :: .ref (rg_A (rx_fin D b ca) q) :: rest) :=
  rx_putN C u_Msg t_Msg_ok n_Msg rfl (k := 7) (Nat.le_of_ble_eq_true rfl) t_66 rfl (by decide +kernel) hd (rx_lt (by omega)) (rx_E_msg hq _) (Nat.le_of_ble_eq_true rfl) (rx_E_msg hq (upd (σ q) 7 x)).symm (rx_SI_wr (by omega)) kk
theorem p_Mob_96 (C : rx_Cw p s m args meth c R_Mob cc nL ret (rx_fin D b ca)) {q : Nat} (hq : 3 ≤ q ∧ q < 45) {x : Int32} (hd : decode cc pc = .ok (.putfield 96, 3))
    (kk : rx_X p l e R s m args below meth c (rg_O (rx_fin D b ca)) H0 cells slots Q nL (rx_m (rx_fin D b ca) (rx_wr σ q 8 x)) (pc + 3) lo rest) : rx_X p l e R s m args below meth c (rg_O (rx_fin D b ca)) H0 cells slots Q nL (rx_m (rx_fin D b ca) σ) pc lo (.int x :: .ref (rg_A (rx_fin D b ca) q) :: rest) :=
  rx_putN C u_Msg t_Msg_ok n_Msg rfl (k := 8) (Nat.le_of_ble_eq_true rfl) t_71 rfl (by decide +kernel) hd (rx_lt (by omega)) (rx_E_msg hq _) (Nat.le_of_ble_eq_true rfl) (rx_E_msg hq (upd (σ q) 8 x)).symm (rx_SI_wr (by omega)) kk
theorem p_Mob_99 (C : rx_Cw p s m args meth c R_Mob cc nL ret (rx_fin D b ca)) {j : Nat} (hj : j < 2) {x : Int32} (hd : decode cc pc = .ok (.putfield 99, 3))
    (kk : rx_X p l e R s m args below meth c (rg_O (rx_fin D b ca)) H0 cells slots Q nL (rx_m (rx_fin D b ca) (rx_wr σ (46 + j) 12 x)) (pc + 3) lo rest) : rx_X p l e R s m args below meth c (rg_O (rx_fin D b ca)) H0 cells slots Q nL (rx_m (rx_fin D b ca) σ) pc lo (.int x :: .ref (rg_A (rx_fin D b ca) (46 + j)) :: rest) :=
  rx_put C u_Mob t_Mob_ok n_Mob rfl (k := 12) (Nat.le_of_ble_eq_true rfl) (rx_in t_134 rfl) rfl (by decide +kernel) hd (rx_lt (by omega)) (rx_E_mob hj _) (Nat.le_of_ble_eq_true rfl) (rx_E_mob hj (upd (σ (46 + j)) 12 x)).symm (rx_SI_wr (by omega)) kk
theorem p_Mob_108 (C : rx_Cw p s m args meth c R_Mob cc nL ret (rx_fin D b ca)) {j : Nat} (hj : j < 2) {x : Int32} (hd : decode cc pc = .ok (.putfield 108, 3))
    (kk : rx_X p l e R s m args below meth c (rg_O (rx_fin D b ca)) H0 cells slots Q nL (rx_m (rx_fin D b ca) (rx_wr σ (46 + j) 13 x)) (pc + 3) lo rest) : rx_X p l e R s m args below meth c (rg_O (rx_fin D b ca)) H0 cells slots Q nL (rx_m (rx_fin D b ca) σ) pc lo (.int x :: .ref (rg_A (rx_fin D b ca) (46 + j)) :: rest) :=
  rx_put C u_Mob t_Mob_ok n_Mob rfl (k := 13) (Nat.le_of_ble_eq_true rfl) (rx_in t_135 rfl) rfl (by decide +kernel) hd (rx_lt (by omega)) (rx_E_mob hj _) (Nat.le_of_ble_eq_true rfl) (rx_E_mob hj (upd (σ (46 + j)) 13 x)).symm (rx_SI_wr (by omega)) kk
theorem p_Msg_9 (C : rx_Cw p s m args meth c R_Msg cc nL ret (rx_fin D b ca)) {q : Nat} (hq : 3 ≤ q ∧ q < 45) {x : Int32} (hd : decode cc pc = .ok (.putfield 9, 3))
    (kk : rx_X p l e R s m args below meth c (rg_O (rx_fin D b ca)) H0 cells slots Q nL (rx_m (rx_fin D b ca) (rx_wr σ q 0 x)) (pc + 3) lo rest) : rx_X p l e R s m args below meth c (rg_O (rx_fin D b ca)) H0 cells slots Q nL (rx_m (rx_fin D b ca) σ) pc lo (.int x :: .ref (rg_A (rx_fin D b ca) q) :: rest) :=
  rx_put C u_Msg t_Msg_ok n_Msg rfl (k := 0) (Nat.le_of_ble_eq_true rfl) (rx_in t_34 rfl) rfl (by decide +kernel) hd (rx_lt (by omega)) (rx_E_msg hq _) (Nat.le_of_ble_eq_true rfl) (rx_E_msg hq (upd (σ q) 0 x)).symm (rx_SI_wr (by omega)) kk
theorem p_Msg_15 (C : rx_Cw p s m args meth c R_Msg cc nL ret (rx_fin D b ca)) {q : Nat} (hq : 3 ≤ q ∧ q < 45) {x : Int32} (hd : decode cc pc = .ok (.putfield 15, 3))
    (kk : rx_X p l e R s m args below meth c (rg_O (rx_fin D b ca)) H0 cells slots Q nL (rx_m (rx_fin D b ca) (rx_wr σ q 1 x)) (pc + 3) lo rest) : rx_X p l e R s m args below meth c (rg_O (rx_fin D b ca)) H0 cells slots Q nL (rx_m (rx_fin D b ca) σ) pc lo (.int x :: .ref (rg_A (rx_fin D b ca) q) :: rest) :=
  rx_put C u_Msg t_Msg_ok n_Msg rfl (k := 1) (Nat.le_of_ble_eq_true rfl) (rx_in t_39 rfl) rfl (by decide +kernel) hd (rx_lt (by omega)) (rx_E_msg hq _) (Nat.le_of_ble_eq_true rfl) (rx_E_msg hq (upd (σ q) 1 x)).symm (rx_SI_wr (by omega)) kk
theorem p_Msg_18 (C : rx_Cw p s m args meth c R_Msg cc nL ret (rx_fin D b ca)) {q : Nat} (hq : 3 ≤ q ∧ q < 45) {x : Int32} (hd : decode cc pc = .ok (.putfield 18, 3))
    (kk : rx_X p l e R s m args below meth c (rg_O (rx_fin D b ca)) H0 cells slots Q nL (rx_m (rx_fin D b ca) (rx_wr σ q 3 x)) (pc + 3) lo rest) : rx_X p l e R s m args below meth c (rg_O (rx_fin D b ca)) H0 cells slots Q nL (rx_m (rx_fin D b ca) σ) pc lo (.int x :: .ref (rg_A (rx_fin D b ca) q) :: rest) :=
  rx_put C u_Msg t_Msg_ok n_Msg rfl (k := 3) (Nat.le_of_ble_eq_true rfl) (rx_in t_45 rfl) rfl (by decide +kernel) hd (rx_lt (by omega)) (rx_E_msg hq _) (Nat.le_of_ble_eq_true rfl) (rx_E_msg hq (upd (σ q) 3 x)).symm (rx_SI_wr (by omega)) kk
theorem p_Msg_21 (C : rx_Cw p s m args meth c R_Msg cc nL ret (rx_fin D b ca)) {q : Nat} (hq : 3 ≤ q ∧ q < 45) {x : Int32} (hd : decode cc pc = .ok (.putfield 21, 3))
    (kk : rx_X p l e R s m args below meth c (rg_O (rx_fin D b ca)) H0 cells slots Q nL (rx_m (rx_fin D b ca) (rx_wr σ q 4 x)) (pc + 3) lo rest) : rx_X p l e R s m args below meth c (rg_O (rx_fin D b ca)) H0 cells slots Q nL (rx_m (rx_fin D b ca) σ) pc lo (.int x :: .ref (rg_A (rx_fin D b ca) q) :: rest) :=
  rx_put C u_Msg t_Msg_ok n_Msg rfl (k := 4) (Nat.le_of_ble_eq_true rfl) (rx_in t_50 rfl) rfl (by decide +kernel) hd (rx_lt (by omega)) (rx_E_msg hq _) (Nat.le_of_ble_eq_true rfl) (rx_E_msg hq (upd (σ q) 4 x)).symm (rx_SI_wr (by omega)) kk
theorem p_Msg_24 (C : rx_Cw p s m args meth c R_Msg cc nL ret (rx_fin D b ca)) {q : Nat} (hq : 3 ≤ q ∧ q < 45) {x : Int32} (hd : decode cc pc = .ok (.putfield 24, 3))
    (kk : rx_X p l e R s m args below meth c (rg_O (rx_fin D b ca)) H0 cells slots Q nL (rx_m (rx_fin D b ca) (rx_wr σ q 2 x)) (pc + 3) lo rest) : rx_X p l e R s m args below meth c (rg_O (rx_fin D b ca)) H0 cells slots Q nL (rx_m (rx_fin D b ca) σ) pc lo (.int x :: .ref (rg_A (rx_fin D b ca) q) :: rest) :=
  rx_put C u_Msg t_Msg_ok n_Msg rfl (k := 2) (Nat.le_of_ble_eq_true rfl) (rx_in t_43 rfl) rfl (by decide +kernel) hd (rx_lt (by omega)) (rx_E_msg hq _) (Nat.le_of_ble_eq_true rfl) (rx_E_msg hq (upd (σ q) 2 x)).symm (rx_SI_wr (by omega)) kk
theorem p_Msg_27 (C : rx_Cw p s m args meth c R_Msg cc nL ret (rx_fin D b ca)) {q : Nat} (hq : 3 ≤ q ∧ q < 45) {x : Int32} (hd : decode cc pc = .ok (.putfield 27, 3))
    (kk : rx_X p l e R s m args below meth c (rg_O (rx_fin D b ca)) H0 cells slots Q nL (rx_m (rx_fin D b ca) (rx_wr σ q 5 x)) (pc + 3) lo rest) : rx_X p l e R s m args below meth c (rg_O (rx_fin D b ca)) H0 cells slots Q nL (rx_m (rx_fin D b ca) σ) pc lo (.int x :: .ref (rg_A (rx_fin D b ca) q) :: rest) :=
  rx_put C u_Msg t_Msg_ok n_Msg rfl (k := 5) (Nat.le_of_ble_eq_true rfl) (rx_in t_55 rfl) rfl (by decide +kernel) hd (rx_lt (by omega)) (rx_E_msg hq _) (Nat.le_of_ble_eq_true rfl) (rx_E_msg hq (upd (σ q) 5 x)).symm (rx_SI_wr (by omega)) kk
theorem p_Msg_30 (C : rx_Cw p s m args meth c R_Msg cc nL ret (rx_fin D b ca)) {q : Nat} (hq : 3 ≤ q ∧ q < 45) {x : Int32} (hd : decode cc pc = .ok (.putfield 30, 3))
    (kk : rx_X p l e R s m args below meth c (rg_O (rx_fin D b ca)) H0 cells slots Q nL (rx_m (rx_fin D b ca) (rx_wr σ q 6 x)) (pc + 3) lo rest) : rx_X p l e R s m args below meth c (rg_O (rx_fin D b ca)) H0 cells slots Q nL (rx_m (rx_fin D b ca) σ) pc lo (.int x :: .ref (rg_A (rx_fin D b ca) q) :: rest) :=
  rx_put C u_Msg t_Msg_ok n_Msg rfl (k := 6) (Nat.le_of_ble_eq_true rfl) (rx_in t_60 rfl) rfl (by decide +kernel) hd (rx_lt (by omega)) (rx_E_msg hq _) (Nat.le_of_ble_eq_true rfl) (rx_E_msg hq (upd (σ q) 6 x)).symm (rx_SI_wr (by omega)) kk
theorem p_Msg_33 (C : rx_Cw p s m args meth c R_Msg cc nL ret (rx_fin D b ca)) {q : Nat} (hq : 3 ≤ q ∧ q < 45) {x : Int32} (hd : decode cc pc = .ok (.putfield 33, 3))
    (kk : rx_X p l e R s m args below meth c (rg_O (rx_fin D b ca)) H0 cells slots Q nL (rx_m (rx_fin D b ca) (rx_wr σ q 7 x)) (pc + 3) lo rest) : rx_X p l e R s m args below meth c (rg_O (rx_fin D b ca)) H0 cells slots Q nL (rx_m (rx_fin D b ca) σ) pc lo (.int x :: .ref (rg_A (rx_fin D b ca) q) :: rest) :=
  rx_put C u_Msg t_Msg_ok n_Msg rfl (k := 7) (Nat.le_of_ble_eq_true rfl) (rx_in t_64 rfl) rfl (by decide +kernel) hd (rx_lt (by omega)) (rx_E_msg hq _) (Nat.le_of_ble_eq_true rfl) (rx_E_msg hq (upd (σ q) 7 x)).symm (rx_SI_wr (by omega)) kk
theorem p_Msg_36 (C : rx_Cw p s m args meth c R_Msg cc nL ret (rx_fin D b ca)) {q : Nat} (hq : 3 ≤ q ∧ q < 45) {x : Int32} (hd : decode cc pc = .ok (.putfield 36, 3))
    (kk : rx_X p l e R s m args below meth c (rg_O (rx_fin D b ca)) H0 cells slots Q nL (rx_m (rx_fin D b ca) (rx_wr σ q 8 x)) (pc + 3) lo rest) : rx_X p l e R s m args below meth c (rg_O (rx_fin D b ca)) H0 cells slots Q nL (rx_m (rx_fin D b ca) σ) pc lo (.int x :: .ref (rg_A (rx_fin D b ca) q) :: rest) :=
  rx_put C u_Msg t_Msg_ok n_Msg rfl (k := 8) (Nat.le_of_ble_eq_true rfl) (rx_in t_69 rfl) rfl (by decide +kernel) hd (rx_lt (by omega)) (rx_E_msg hq _) (Nat.le_of_ble_eq_true rfl) (rx_E_msg hq (upd (σ q) 8 x)).symm (rx_SI_wr (by omega)) kk
theorem p_Net_67 (C : rx_Cw p s m args meth c R_Net cc nL ret (rx_fin D b ca)) {j : Nat} (hj : j < 2) {x : Int32} (hd : decode cc pc = .ok (.putfield 67, 3))
    (kk : rx_X p l e R s m args below meth c (rg_O (rx_fin D b ca)) H0 cells slots Q nL (rx_m (rx_fin D b ca) (rx_wr σ (46 + j) 3 x)) (pc + 3) lo rest) : rx_X p l e R s m args below meth c (rg_O (rx_fin D b ca)) H0 cells slots Q nL (rx_m (rx_fin D b ca) σ) pc lo (.int x :: .ref (rg_A (rx_fin D b ca) (46 + j)) :: rest) :=
  rx_putN C u_Mob t_Mob_ok n_Mob rfl (k := 3) (Nat.le_of_ble_eq_true rfl) t_121 rfl (by decide +kernel) hd (rx_lt (by omega)) (rx_E_mob hj _) (Nat.le_of_ble_eq_true rfl) (rx_E_mob hj (upd (σ (46 + j)) 3 x)).symm (rx_SI_wr (by omega)) kk
theorem p_Net_75 (C : rx_Cw p s m args meth c R_Net cc nL ret (rx_fin D b ca)) {j : Nat} (hj : j < 2) {x : Int32} (hd : decode cc pc = .ok (.putfield 75, 3))
    (kk : rx_X p l e R s m args below meth c (rg_O (rx_fin D b ca)) H0 cells slots Q nL (rx_m (rx_fin D b ca) (rx_wr σ (46 + j) 4 x)) (pc + 3) lo rest) : rx_X p l e R s m args below meth c (rg_O (rx_fin D b ca)) H0 cells slots Q nL (rx_m (rx_fin D b ca) σ) pc lo (.int x :: .ref (rg_A (rx_fin D b ca) (46 + j)) :: rest) :=
  rx_putN C u_Mob t_Mob_ok n_Mob rfl (k := 4) (Nat.le_of_ble_eq_true rfl) t_124 rfl (by decide +kernel) hd (rx_lt (by omega)) (rx_E_mob hj _) (Nat.le_of_ble_eq_true rfl) (rx_E_mob hj (upd (σ (46 + j)) 4 x)).symm (rx_SI_wr (by omega)) kk
theorem p_Net_120 (C : rx_Cw p s m args meth c R_Net cc nL ret (rx_fin D b ca)) {q : Nat} (hq : 3 ≤ q ∧ q < 45) {x : Int32} (hd : decode cc pc = .ok (.putfield 120, 3))
    (kk : rx_X p l e R s m args below meth c (rg_O (rx_fin D b ca)) H0 cells slots Q nL (rx_m (rx_fin D b ca) (rx_wr σ q 5 x)) (pc + 3) lo rest) : rx_X p l e R s m args below meth c (rg_O (rx_fin D b ca)) H0 cells slots Q nL (rx_m (rx_fin D b ca) σ) pc lo (.int x :: .ref (rg_A (rx_fin D b ca) q) :: rest) :=
  rx_putN C u_Msg t_Msg_ok n_Msg rfl (k := 5) (Nat.le_of_ble_eq_true rfl) t_59 rfl (by decide +kernel) hd (rx_lt (by omega)) (rx_E_msg hq _) (Nat.le_of_ble_eq_true rfl) (rx_E_msg hq (upd (σ q) 5 x)).symm (rx_SI_wr (by omega)) kk
theorem p_Net_123 (C : rx_Cw p s m args meth c R_Net cc nL ret (rx_fin D b ca)) {q : Nat} (hq : 3 ≤ q ∧ q < 45) {x : Int32} (hd : decode cc pc = .ok (.putfield 123, 3))
    (kk : rx_X p l e R s m args below meth c (rg_O (rx_fin D b ca)) H0 cells slots Q nL (rx_m (rx_fin D b ca) (rx_wr σ q 7 x)) (pc + 3) lo rest) : rx_X p l e R s m args below meth c (rg_O (rx_fin D b ca)) H0 cells slots Q nL (rx_m (rx_fin D b ca) σ) pc lo (.int x :: .ref (rg_A (rx_fin D b ca) q) :: rest) :=
  rx_putN C u_Msg t_Msg_ok n_Msg rfl (k := 7) (Nat.le_of_ble_eq_true rfl) t_68 rfl (by decide +kernel) hd (rx_lt (by omega)) (rx_E_msg hq _) (Nat.le_of_ble_eq_true rfl) (rx_E_msg hq (upd (σ q) 7 x)).symm (rx_SI_wr (by omega)) kk
theorem p_Net_126 (C : rx_Cw p s m args meth c R_Net cc nL ret (rx_fin D b ca)) {q : Nat} (hq : 3 ≤ q ∧ q < 45) {x : Int32} (hd : decode cc pc = .ok (.putfield 126, 3))
    (kk : rx_X p l e R s m args below meth c (rg_O (rx_fin D b ca)) H0 cells slots Q nL (rx_m (rx_fin D b ca) (rx_wr σ q 8 x)) (pc + 3) lo rest) : rx_X p l e R s m args below meth c (rg_O (rx_fin D b ca)) H0 cells slots Q nL (rx_m (rx_fin D b ca) σ) pc lo (.int x :: .ref (rg_A (rx_fin D b ca) q) :: rest) :=
  rx_putN C u_Msg t_Msg_ok n_Msg rfl (k := 8) (Nat.le_of_ble_eq_true rfl) t_72 rfl (by decide +kernel) hd (rx_lt (by omega)) (rx_E_msg hq _) (Nat.le_of_ble_eq_true rfl) (rx_E_msg hq (upd (σ q) 8 x)).symm (rx_SI_wr (by omega)) kk
theorem p_Net_150 (C : rx_Cw p s m args meth c R_Net cc nL ret (rx_fin D b ca))  {x : Int32} (hd : decode cc pc = .ok (.putfield 150, 3))
    (kk : rx_X p l e R s m args below meth c (rg_O (rx_fin D b ca)) H0 cells slots Q nL (rx_m (rx_fin D b ca) (rx_wr σ 1 2 x)) (pc + 3) lo rest) : rx_X p l e R s m args below meth c (rg_O (rx_fin D b ca)) H0 cells slots Q nL (rx_m (rx_fin D b ca) σ) pc lo (.int x :: .ref (rg_A (rx_fin D b ca) 1) :: rest) :=
  rx_putN C u_Wire t_Wire_ok n_Wire rfl (k := 2) (Nat.le_of_ble_eq_true rfl) t_100 rfl (by decide +kernel) hd (rx_lt (by omega)) rfl (Nat.le_of_ble_eq_true rfl) rfl (rx_SI_wr (by omega)) kk
theorem p_Wire_18 (C : rx_Cw p s m args meth c R_Wire cc nL ret (rx_fin D b ca))  {x : Int32} (hd : decode cc pc = .ok (.putfield 18, 3)) (hv : 0 ≤ x.toInt ∧ x.toInt ≤ 40)
    (kk : rx_X p l e R s m args below meth c (rg_O (rx_fin D b ca)) H0 cells slots Q nL (rx_m (rx_fin D b ca) (rx_wr σ 1 1 x)) (pc + 3) lo rest) : rx_X p l e R s m args below meth c (rg_O (rx_fin D b ca)) H0 cells slots Q nL (rx_m (rx_fin D b ca) σ) pc lo (.int x :: .ref (rg_A (rx_fin D b ca) 1) :: rest) :=
  rx_put C u_Wire t_Wire_ok n_Wire rfl (k := 1) (Nat.le_of_ble_eq_true rfl) (rx_in t_94 rfl) rfl (by decide +kernel) hd (rx_lt (by omega)) rfl (Nat.le_of_ble_eq_true rfl) rfl (rx_SI_size hv) kk
theorem p_Wire_38 (C : rx_Cw p s m args meth c R_Wire cc nL ret (rx_fin D b ca)) {q : Nat} (hq : 3 ≤ q ∧ q < 45) {x : Int32} (hd : decode cc pc = .ok (.putfield 38, 3))
    (kk : rx_X p l e R s m args below meth c (rg_O (rx_fin D b ca)) H0 cells slots Q nL (rx_m (rx_fin D b ca) (rx_wr σ q 2 x)) (pc + 3) lo rest) : rx_X p l e R s m args below meth c (rg_O (rx_fin D b ca)) H0 cells slots Q nL (rx_m (rx_fin D b ca) σ) pc lo (.int x :: .ref (rg_A (rx_fin D b ca) q) :: rest) :=
  rx_putN C u_Msg t_Msg_ok n_Msg rfl (k := 2) (Nat.le_of_ble_eq_true rfl) t_44 rfl (by decide +kernel) hd (rx_lt (by omega)) (rx_E_msg hq _) (Nat.le_of_ble_eq_true rfl) (rx_E_msg hq (upd (σ q) 2 x)).symm (rx_SI_wr (by omega)) kk
theorem p_Wire_45 (C : rx_Cw p s m args meth c R_Wire cc nL ret (rx_fin D b ca)) {q : Nat} (hq : 3 ≤ q ∧ q < 45) {x : Int32} (hd : decode cc pc = .ok (.putfield 45, 3))
    (kk : rx_X p l e R s m args below meth c (rg_O (rx_fin D b ca)) H0 cells slots Q nL (rx_m (rx_fin D b ca) (rx_wr σ q 1 x)) (pc + 3) lo rest) : rx_X p l e R s m args below meth c (rg_O (rx_fin D b ca)) H0 cells slots Q nL (rx_m (rx_fin D b ca) σ) pc lo (.int x :: .ref (rg_A (rx_fin D b ca) q) :: rest) :=
  rx_putN C u_Msg t_Msg_ok n_Msg rfl (k := 1) (Nat.le_of_ble_eq_true rfl) t_40 rfl (by decide +kernel) hd (rx_lt (by omega)) (rx_E_msg hq _) (Nat.le_of_ble_eq_true rfl) (rx_E_msg hq (upd (σ q) 1 x)).symm (rx_SI_wr (by omega)) kk
end RXF
end
section
def rv_Net_isWithin (x : Int32) (lo : Int32) (hi : Int32) : Int32 := if x < lo then 0 else (if hi < x then 0 else 1)
set_option maxHeartbeats 4000000 in
set_option maxRecDepth 100000 in
theorem c_Net_isWithin (l : Launch) {x : Int32} {lo : Int32} {hi : Int32} : rx_S l y_Net_isWithin b_Net_isWithin 3 (some .boolean) (rx_rm 0) [.int x, .int lo, .int hi] (.int (rv_Net_isWithin x lo hi)) := by
  refine rx_ofS (lo := [(0, .int x), (1, .int lo), (2, .int hi)]) (by decide) rfl (Nat.le_of_ble_eq_true rfl) rfl ?_
  intro p e s mm below meth c C0
  have C := And.intro C0 True.intro
  refine rx_iload_n C.1 (pc := 0) d_Net_isWithin_0 rfl ?_
  refine rx_iload_n C.1 (pc := 1) d_Net_isWithin_1 rfl ?_
  refine rx_icmp_lt C.1 (pc := 2) d_Net_isWithin_2 (tgt := 14) rfl (fun h1 => ?_) (fun h1 => ?_)
  ·
    refine rx_iconst C.1 (v := 0) (pc := 14) d_Net_isWithin_14 (by decide) ?_
    exact rx_zretS C.1 (pc := 15) d_Net_isWithin_15 (Or.inl rfl) (by unfold rv_Net_isWithin; first | (simp only [if_pos h1]; done) | (simp only [if_pos h1]; rfl)) 
  ·
    refine rx_iload_n C.1 (pc := 5) d_Net_isWithin_5 rfl ?_
    refine rx_iload_n C.1 (pc := 6) d_Net_isWithin_6 rfl ?_
    refine rx_icmp_gt C.1 (pc := 7) d_Net_isWithin_7 (tgt := 14) rfl (fun h2 => ?_) (fun h2 => ?_)
    ·
      refine rx_iconst C.1 (v := 0) (pc := 14) d_Net_isWithin_14 (by decide) ?_
      exact rx_zretS C.1 (pc := 15) d_Net_isWithin_15 (Or.inl rfl) (by unfold rv_Net_isWithin; first | (simp only [if_neg h1, if_pos h2]; done) | (simp only [if_neg h1, if_pos h2]; rfl)) 
    ·
      refine rx_iconst C.1 (v := 1) (pc := 10) d_Net_isWithin_10 (by decide) ?_
      refine rx_goto C.1 (pc := 11) d_Net_isWithin_11 (tgt := 15) rfl ?_
      exact rx_zretS C.1 (pc := 15) d_Net_isWithin_15 (Or.inr rfl) (by unfold rv_Net_isWithin; first | (simp only [if_neg h1, if_neg h2]; done) | (simp only [if_neg h1, if_neg h2]; rfl)) 

theorem rz_Net_isWithin (x lo hi : Int32) : rv_Net_isWithin x lo hi = 0 ∨ rv_Net_isWithin x lo hi = 1 := by
  unfold rv_Net_isWithin
  by_cases h1 : x < lo
  · exact Or.inl (if_pos h1)
  · rw [if_neg h1]
    by_cases h2 : hi < x
    · exact Or.inl (if_pos h2)
    · exact Or.inr (if_neg h2)
def rv_Net_isMobile (m : Int32) : Int32 := (rv_Net_isWithin m 0 1)
set_option maxHeartbeats 4000000 in
set_option maxRecDepth 100000 in
theorem c_Net_isMobile (l : Launch) {m : Int32} : rx_S l y_Net_isMobile b_Net_isMobile 1 (some .boolean) (rx_rm 1) [.int m] (.int (rv_Net_isMobile m)) := by
  refine rx_ofS (lo := [(0, .int m)]) (by decide) rfl (Nat.le_of_ble_eq_true rfl) rfl ?_
  intro p e s mm below meth c C0
  have C := And.intro C0 True.intro
  refine rx_iload_n C.1 (pc := 0) d_Net_isMobile_0 rfl ?_
  refine rx_iconst C.1 (v := 0) (pc := 1) d_Net_isMobile_1 (by decide) ?_
  refine rx_iconst C.1 (v := 1) (pc := 2) d_Net_isMobile_2 (by decide) ?_
  refine q_Net_11 C.1 (pc := 3) d_Net_isMobile_3 (c_Net_isWithin l ) ⟨Nat.le_of_ble_eq_true rfl, Nat.le_of_ble_eq_true rfl⟩ ⟨Nat.zero_le _, Nat.zero_le _⟩ (Nat.le_of_ble_eq_true rfl) ?_
  exact rx_zretS C.1 (pc := 6) d_Net_isMobile_6 (rz_Net_isWithin _ _ _) (by first | rfl | (unfold rv_Net_isMobile; rfl)) 
theorem rm_Net {m : Int32} (h : ¬ rv_Net_isMobile m = 0) : rx_iM m := by
  unfold rv_Net_isMobile rv_Net_isWithin at h
  by_cases h1 : m < 0
  · rw [if_pos h1] at h
    exact absurd rfl h
  · rw [if_neg h1] at h
    by_cases h2 : 1 < m
    · rw [if_pos h2] at h
      exact absurd rfl h
    · rw [rx_ltI] at h1 h2
      rw [rx_I0] at h1
      rw [rx_I1] at h2
      exact ⟨by omega, by omega⟩

def rv_Net_isAgent (m : Int32) : Int32 := (rv_Net_isWithin m 0 3)
set_option maxHeartbeats 4000000 in
set_option maxRecDepth 100000 in
theorem c_Net_isAgent (l : Launch) {m : Int32} : rx_S l y_Net_isAgent b_Net_isAgent 1 (some .boolean) (rx_rm 1) [.int m] (.int (rv_Net_isAgent m)) := by
  refine rx_ofS (lo := [(0, .int m)]) (by decide) rfl (Nat.le_of_ble_eq_true rfl) rfl ?_
  intro p e s mm below meth c C0
  have C := And.intro C0 True.intro
  refine rx_iload_n C.1 (pc := 0) d_Net_isAgent_0 rfl ?_
  refine rx_iconst C.1 (v := 0) (pc := 1) d_Net_isAgent_1 (by decide) ?_
  refine rx_iconst C.1 (v := 3) (pc := 2) d_Net_isAgent_2 (by decide) ?_
  refine q_Net_11 C.1 (pc := 3) d_Net_isAgent_3 (c_Net_isWithin l ) ⟨Nat.le_of_ble_eq_true rfl, Nat.le_of_ble_eq_true rfl⟩ ⟨Nat.zero_le _, Nat.zero_le _⟩ (Nat.le_of_ble_eq_true rfl) ?_
  exact rx_zretS C.1 (pc := 6) d_Net_isAgent_6 (rz_Net_isWithin _ _ _) (by first | rfl | (unfold rv_Net_isAgent; rfl)) 

def rv_Msg_stir (h : Int32) (x : Int32) : Int32 := (((h ^^^ x) * 16777619) ^^^ (((h ^^^ x) * 16777619).toUInt32 >>> ((15 : Int32).toUInt32 &&& Int32.toUInt32 31)).toInt32)
set_option maxHeartbeats 4000000 in
set_option maxRecDepth 100000 in
theorem c_Msg_stir (l : Launch) {h : Int32} {x : Int32} : rx_S l y_Msg_stir b_Msg_stir 3 (some .int) (rx_rm 0) [.int h, .int x] (.int (rv_Msg_stir h x)) := by
  refine rx_ofS (lo := [(0, .int h), (1, .int x)]) (by decide) rfl (Nat.le_of_ble_eq_true rfl) rfl ?_
  intro p e s mm below meth c C0
  have C := And.intro C0 True.intro
  refine rx_iload_n C.1 (pc := 0) d_Msg_stir_0 rfl ?_
  refine rx_iload_n C.1 (pc := 1) d_Msg_stir_1 rfl ?_
  refine rx_ixor C.1 (pc := 2) d_Msg_stir_2 ?_
  refine rx_ldc C.1 (v := 16777619) k_Msg_45 (pc := 3) d_Msg_stir_3 ?_
  refine rx_imul C.1 (pc := 5) d_Msg_stir_5 ?_
  refine rx_istore_n C.1 (pc := 6) d_Msg_stir_6 (by decide) ?_
  refine rx_iload_n C.1 (pc := 7) d_Msg_stir_7 rfl ?_
  refine rx_iload_n C.1 (pc := 8) d_Msg_stir_8 rfl ?_
  refine rx_bipush C.1 (v := 15) (pc := 9) d_Msg_stir_9 (by decide) ?_
  refine rx_iushr C.1 (pc := 11) d_Msg_stir_11 rfl ?_
  refine rx_ixor C.1 (pc := 12) d_Msg_stir_12 ?_
  exact rx_iretS C.1 (pc := 13) d_Msg_stir_13 (by first | rfl | (unfold rv_Msg_stir; rfl)) 

def sp_Msg_begin (σ : rMem) (q : Nat) (kd : Int32) (tg : Int32) (mo : Int32) (nu : Int32) : rMem := let m1 := rx_wr σ q 0 kd; let m2 := rx_wr m1 q 1 tg; let m3 := rx_wr m2 q 3 mo; let m4 := rx_wr m3 q 4 nu; let m5 := rx_wr m4 q 2 (-1); let m6 := rx_wr m5 q 5 0; let m7 := rx_wr m6 q 6 0; let m8 := rx_wr m7 q 7 0; let m9 := rx_wr m8 q 8 0; m9
set_option maxHeartbeats 4000000 in
set_option maxRecDepth 100000 in
theorem c_Msg_begin (l : Launch) (D : va_G) (b : Nat) (ca : Nat → ClassId) {σ : rMem} {q : Nat} (hq : 3 ≤ q ∧ q < 45) {kd : Int32} {tg : Int32} {mo : Int32} {nu : Int32} : rx_C l (rx_fin D b ca) y_Msg_begin b_Msg_begin 5 none (rx_rm 0) [.ref (rg_A (rx_fin D b ca) q), .int kd, .int tg, .int mo, .int nu] σ none (sp_Msg_begin σ q kd tg mo nu) := by
  refine rx_of (lo := [(0, .ref (rg_A (rx_fin D b ca) q)), (1, .int kd), (2, .int tg), (3, .int mo), (4, .int nu)]) (by decide) (rx_fin_D D b ca) rfl (Nat.le_of_ble_eq_true rfl) rfl ?_
  intro p e s mm below meth c C
  refine rx_aload_n C.1 (pc := 0) d_Msg_begin_0 rfl ?_
  refine rx_iload_n C.1 (pc := 1) d_Msg_begin_1 rfl ?_
  refine p_Msg_9 D b ca C (by first | assumption | (constructor <;> omega) | omega | decide) (pc := 2) d_Msg_begin_2 ?_
  refine rx_aload_n C.1 (pc := 5) d_Msg_begin_5 rfl ?_
  refine rx_iload_n C.1 (pc := 6) d_Msg_begin_6 rfl ?_
  refine p_Msg_15 D b ca C (by first | assumption | (constructor <;> omega) | omega | decide) (pc := 7) d_Msg_begin_7 ?_
  refine rx_aload_n C.1 (pc := 10) d_Msg_begin_10 rfl ?_
  refine rx_iload_n C.1 (pc := 11) d_Msg_begin_11 rfl ?_
  refine p_Msg_18 D b ca C (by first | assumption | (constructor <;> omega) | omega | decide) (pc := 12) d_Msg_begin_12 ?_
  refine rx_aload_n C.1 (pc := 15) d_Msg_begin_15 rfl ?_
  refine rx_iload C.1 (pc := 16) d_Msg_begin_16 rfl ?_
  refine p_Msg_21 D b ca C (by first | assumption | (constructor <;> omega) | omega | decide) (pc := 18) d_Msg_begin_18 ?_
  refine rx_aload_n C.1 (pc := 21) d_Msg_begin_21 rfl ?_
  refine rx_iconst C.1 (v := (-1)) (pc := 22) d_Msg_begin_22 (by decide) ?_
  refine p_Msg_24 D b ca C (by first | assumption | (constructor <;> omega) | omega | decide) (pc := 23) d_Msg_begin_23 ?_
  refine rx_aload_n C.1 (pc := 26) d_Msg_begin_26 rfl ?_
  refine rx_iconst C.1 (v := 0) (pc := 27) d_Msg_begin_27 (by decide) ?_
  refine p_Msg_27 D b ca C (by first | assumption | (constructor <;> omega) | omega | decide) (pc := 28) d_Msg_begin_28 ?_
  refine rx_aload_n C.1 (pc := 31) d_Msg_begin_31 rfl ?_
  refine rx_iconst C.1 (v := 0) (pc := 32) d_Msg_begin_32 (by decide) ?_
  refine p_Msg_30 D b ca C (by first | assumption | (constructor <;> omega) | omega | decide) (pc := 33) d_Msg_begin_33 ?_
  refine rx_aload_n C.1 (pc := 36) d_Msg_begin_36 rfl ?_
  refine rx_iconst C.1 (v := 0) (pc := 37) d_Msg_begin_37 (by decide) ?_
  refine p_Msg_33 D b ca C (by first | assumption | (constructor <;> omega) | omega | decide) (pc := 38) d_Msg_begin_38 ?_
  refine rx_aload_n C.1 (pc := 41) d_Msg_begin_41 rfl ?_
  refine rx_iconst C.1 (v := 0) (pc := 42) d_Msg_begin_42 (by decide) ?_
  refine p_Msg_36 D b ca C (by first | assumption | (constructor <;> omega) | omega | decide) (pc := 43) d_Msg_begin_43 ?_
  exact rx_vret C (pc := 46) d_Msg_begin_46 (by first | rfl | (unfold sp_Msg_begin; rfl))

def sp_Msg_copyFrom (σ : rMem) (q : Nat) (r : Nat) : rMem := let m1 := rx_wr σ q 0 (σ r 0); let m2 := rx_wr m1 q 1 (m1 r 1); let m3 := rx_wr m2 q 2 (m2 r 2); let m4 := rx_wr m3 q 3 (m3 r 3); let m5 := rx_wr m4 q 4 (m4 r 4); let m6 := rx_wr m5 q 5 (m5 r 5); let m7 := rx_wr m6 q 6 (m6 r 6); let m8 := rx_wr m7 q 7 (m7 r 7); let m9 := rx_wr m8 q 8 (m8 r 8); m9
set_option maxHeartbeats 4000000 in
set_option maxRecDepth 100000 in
theorem c_Msg_copyFrom (l : Launch) (D : va_G) (b : Nat) (ca : Nat → ClassId) {σ : rMem} {q : Nat} (hq : 3 ≤ q ∧ q < 45) {r : Nat} (hr : 3 ≤ r ∧ r < 45) : rx_C l (rx_fin D b ca) y_Msg_copyFrom b_Msg_copyFrom 2 none (rx_rm 0) [.ref (rg_A (rx_fin D b ca) q), .ref (rg_A (rx_fin D b ca) r)] σ none (sp_Msg_copyFrom σ q r) := by
  refine rx_of (lo := [(0, .ref (rg_A (rx_fin D b ca) q)), (1, .ref (rg_A (rx_fin D b ca) r))]) (by decide) (rx_fin_D D b ca) rfl (Nat.le_of_ble_eq_true rfl) rfl ?_
  intro p e s mm below meth c C
  refine rx_aload_n C.1 (pc := 0) d_Msg_copyFrom_0 rfl ?_
  refine rx_aload_n C.1 (pc := 1) d_Msg_copyFrom_1 rfl ?_
  refine g_Msg_9 D b ca C (by first | assumption | (constructor <;> omega) | omega | decide) (pc := 2) d_Msg_copyFrom_2 ?_
  refine p_Msg_9 D b ca C (by first | assumption | (constructor <;> omega) | omega | decide) (pc := 5) d_Msg_copyFrom_5 ?_
  refine rx_aload_n C.1 (pc := 8) d_Msg_copyFrom_8 rfl ?_
  refine rx_aload_n C.1 (pc := 9) d_Msg_copyFrom_9 rfl ?_
  refine g_Msg_15 D b ca C (by first | assumption | (constructor <;> omega) | omega | decide) (pc := 10) d_Msg_copyFrom_10 ?_
  refine p_Msg_15 D b ca C (by first | assumption | (constructor <;> omega) | omega | decide) (pc := 13) d_Msg_copyFrom_13 ?_
  refine rx_aload_n C.1 (pc := 16) d_Msg_copyFrom_16 rfl ?_
  refine rx_aload_n C.1 (pc := 17) d_Msg_copyFrom_17 rfl ?_
  refine g_Msg_24 D b ca C (by first | assumption | (constructor <;> omega) | omega | decide) (pc := 18) d_Msg_copyFrom_18 ?_
  refine p_Msg_24 D b ca C (by first | assumption | (constructor <;> omega) | omega | decide) (pc := 21) d_Msg_copyFrom_21 ?_
  refine rx_aload_n C.1 (pc := 24) d_Msg_copyFrom_24 rfl ?_
  refine rx_aload_n C.1 (pc := 25) d_Msg_copyFrom_25 rfl ?_
  refine g_Msg_18 D b ca C (by first | assumption | (constructor <;> omega) | omega | decide) (pc := 26) d_Msg_copyFrom_26 ?_
  refine p_Msg_18 D b ca C (by first | assumption | (constructor <;> omega) | omega | decide) (pc := 29) d_Msg_copyFrom_29 ?_
  refine rx_aload_n C.1 (pc := 32) d_Msg_copyFrom_32 rfl ?_
  refine rx_aload_n C.1 (pc := 33) d_Msg_copyFrom_33 rfl ?_
  refine g_Msg_21 D b ca C (by first | assumption | (constructor <;> omega) | omega | decide) (pc := 34) d_Msg_copyFrom_34 ?_
  refine p_Msg_21 D b ca C (by first | assumption | (constructor <;> omega) | omega | decide) (pc := 37) d_Msg_copyFrom_37 ?_
  refine rx_aload_n C.1 (pc := 40) d_Msg_copyFrom_40 rfl ?_
  refine rx_aload_n C.1 (pc := 41) d_Msg_copyFrom_41 rfl ?_
  refine g_Msg_27 D b ca C (by first | assumption | (constructor <;> omega) | omega | decide) (pc := 42) d_Msg_copyFrom_42 ?_
  refine p_Msg_27 D b ca C (by first | assumption | (constructor <;> omega) | omega | decide) (pc := 45) d_Msg_copyFrom_45 ?_
  refine rx_aload_n C.1 (pc := 48) d_Msg_copyFrom_48 rfl ?_
  refine rx_aload_n C.1 (pc := 49) d_Msg_copyFrom_49 rfl ?_
  refine g_Msg_30 D b ca C (by first | assumption | (constructor <;> omega) | omega | decide) (pc := 50) d_Msg_copyFrom_50 ?_
  refine p_Msg_30 D b ca C (by first | assumption | (constructor <;> omega) | omega | decide) (pc := 53) d_Msg_copyFrom_53 ?_
  refine rx_aload_n C.1 (pc := 56) d_Msg_copyFrom_56 rfl ?_
  refine rx_aload_n C.1 (pc := 57) d_Msg_copyFrom_57 rfl ?_
  refine g_Msg_33 D b ca C (by first | assumption | (constructor <;> omega) | omega | decide) (pc := 58) d_Msg_copyFrom_58 ?_
  refine p_Msg_33 D b ca C (by first | assumption | (constructor <;> omega) | omega | decide) (pc := 61) d_Msg_copyFrom_61 ?_
  refine rx_aload_n C.1 (pc := 64) d_Msg_copyFrom_64 rfl ?_
  refine rx_aload_n C.1 (pc := 65) d_Msg_copyFrom_65 rfl ?_
  refine g_Msg_36 D b ca C (by first | assumption | (constructor <;> omega) | omega | decide) (pc := 66) d_Msg_copyFrom_66 ?_
  refine p_Msg_36 D b ca C (by first | assumption | (constructor <;> omega) | omega | decide) (pc := 69) d_Msg_copyFrom_69 ?_
  exact rx_vret C (pc := 72) d_Msg_copyFrom_72 (by first | rfl | (unfold sp_Msg_copyFrom; rfl))

def rv_Msg_summary (σ : rMem) (q : Nat) : Int32 := ((((1000000 * (σ q 0)) + (100000 * (σ q 1))) + (10000 * (σ q 3))) + (σ q 4))
set_option maxHeartbeats 4000000 in
set_option maxRecDepth 100000 in
theorem c_Msg_summary (l : Launch) (D : va_G) (b : Nat) (ca : Nat → ClassId) {σ : rMem} {q : Nat} (hq : 3 ≤ q ∧ q < 45) : rx_C l (rx_fin D b ca) y_Msg_summary b_Msg_summary 1 (some .int) (rx_rm 0) [.ref (rg_A (rx_fin D b ca) q)] σ (some (.int (rv_Msg_summary σ q))) σ := by
  refine rx_of (lo := [(0, .ref (rg_A (rx_fin D b ca) q))]) (by decide) (rx_fin_D D b ca) rfl (Nat.le_of_ble_eq_true rfl) rfl ?_
  intro p e s mm below meth c C
  refine rx_ldc C.1 (v := 1000000) k_Msg_39 (pc := 0) d_Msg_summary_0 ?_
  refine rx_aload_n C.1 (pc := 2) d_Msg_summary_2 rfl ?_
  refine g_Msg_9 D b ca C (by first | assumption | (constructor <;> omega) | omega | decide) (pc := 3) d_Msg_summary_3 ?_
  refine rx_imul C.1 (pc := 6) d_Msg_summary_6 ?_
  refine rx_ldc C.1 (v := 100000) k_Msg_40 (pc := 7) d_Msg_summary_7 ?_
  refine rx_aload_n C.1 (pc := 9) d_Msg_summary_9 rfl ?_
  refine g_Msg_15 D b ca C (by first | assumption | (constructor <;> omega) | omega | decide) (pc := 10) d_Msg_summary_10 ?_
  refine rx_imul C.1 (pc := 13) d_Msg_summary_13 ?_
  refine rx_iadd C.1 (pc := 14) d_Msg_summary_14 ?_
  refine rx_sipush C.1 (v := 10000) (pc := 15) d_Msg_summary_15 (by decide) ?_
  refine rx_aload_n C.1 (pc := 18) d_Msg_summary_18 rfl ?_
  refine g_Msg_18 D b ca C (by first | assumption | (constructor <;> omega) | omega | decide) (pc := 19) d_Msg_summary_19 ?_
  refine rx_imul C.1 (pc := 22) d_Msg_summary_22 ?_
  refine rx_iadd C.1 (pc := 23) d_Msg_summary_23 ?_
  refine rx_aload_n C.1 (pc := 24) d_Msg_summary_24 rfl ?_
  refine g_Msg_21 D b ca C (by first | assumption | (constructor <;> omega) | omega | decide) (pc := 25) d_Msg_summary_25 ?_
  refine rx_iadd C.1 (pc := 28) d_Msg_summary_28 ?_
  exact rx_iret C (pc := 29) d_Msg_summary_29 (by first | rfl | (unfold rv_Msg_summary; rfl)) rfl

def rv_Msg_requestSeal (σ : rMem) (q : Nat) (h : Int32) : Int32 := (rv_Msg_stir (rv_Msg_stir (rv_Msg_stir (rv_Msg_stir (rv_Msg_stir h 2) (σ q 3)) (σ q 5)) (σ q 7)) (σ q 4))
set_option maxHeartbeats 4000000 in
set_option maxRecDepth 100000 in
theorem c_Msg_requestSeal (l : Launch) (D : va_G) (b : Nat) (ca : Nat → ClassId) {σ : rMem} {q : Nat} (hq : 3 ≤ q ∧ q < 45) {h : Int32} : rx_C l (rx_fin D b ca) y_Msg_requestSeal b_Msg_requestSeal 3 (some .int) (rx_rm 1) [.ref (rg_A (rx_fin D b ca) q), .int h] σ (some (.int (rv_Msg_requestSeal σ q h))) σ := by
  refine rx_of (lo := [(0, .ref (rg_A (rx_fin D b ca) q)), (1, .int h)]) (by decide) (rx_fin_D D b ca) rfl (Nat.le_of_ble_eq_true rfl) rfl ?_
  intro p e s mm below meth c C
  refine rx_iload_n C.1 (pc := 0) d_Msg_requestSeal_0 rfl ?_
  refine rx_iconst C.1 (v := 2) (pc := 1) d_Msg_requestSeal_1 (by decide) ?_
  refine q_Msg_41 C.1 (pc := 2) d_Msg_requestSeal_2 (c_Msg_stir l ) ⟨Nat.le_of_ble_eq_true rfl, Nat.le_of_ble_eq_true rfl⟩ ⟨Nat.zero_le _, Nat.zero_le _⟩ (Nat.le_of_ble_eq_true rfl) ?_
  refine rx_istore_n C.1 (pc := 5) d_Msg_requestSeal_5 (by decide) ?_
  refine rx_iload_n C.1 (pc := 6) d_Msg_requestSeal_6 rfl ?_
  refine rx_aload_n C.1 (pc := 7) d_Msg_requestSeal_7 rfl ?_
  refine g_Msg_18 D b ca C (by first | assumption | (constructor <;> omega) | omega | decide) (pc := 8) d_Msg_requestSeal_8 ?_
  refine q_Msg_41 C.1 (pc := 11) d_Msg_requestSeal_11 (c_Msg_stir l ) ⟨Nat.le_of_ble_eq_true rfl, Nat.le_of_ble_eq_true rfl⟩ ⟨Nat.zero_le _, Nat.zero_le _⟩ (Nat.le_of_ble_eq_true rfl) ?_
  refine rx_istore_n C.1 (pc := 14) d_Msg_requestSeal_14 (by decide) ?_
  refine rx_iload_n C.1 (pc := 15) d_Msg_requestSeal_15 rfl ?_
  refine rx_aload_n C.1 (pc := 16) d_Msg_requestSeal_16 rfl ?_
  refine g_Msg_27 D b ca C (by first | assumption | (constructor <;> omega) | omega | decide) (pc := 17) d_Msg_requestSeal_17 ?_
  refine q_Msg_41 C.1 (pc := 20) d_Msg_requestSeal_20 (c_Msg_stir l ) ⟨Nat.le_of_ble_eq_true rfl, Nat.le_of_ble_eq_true rfl⟩ ⟨Nat.zero_le _, Nat.zero_le _⟩ (Nat.le_of_ble_eq_true rfl) ?_
  refine rx_istore_n C.1 (pc := 23) d_Msg_requestSeal_23 (by decide) ?_
  refine rx_iload_n C.1 (pc := 24) d_Msg_requestSeal_24 rfl ?_
  refine rx_aload_n C.1 (pc := 25) d_Msg_requestSeal_25 rfl ?_
  refine g_Msg_33 D b ca C (by first | assumption | (constructor <;> omega) | omega | decide) (pc := 26) d_Msg_requestSeal_26 ?_
  refine q_Msg_41 C.1 (pc := 29) d_Msg_requestSeal_29 (c_Msg_stir l ) ⟨Nat.le_of_ble_eq_true rfl, Nat.le_of_ble_eq_true rfl⟩ ⟨Nat.zero_le _, Nat.zero_le _⟩ (Nat.le_of_ble_eq_true rfl) ?_
  refine rx_istore_n C.1 (pc := 32) d_Msg_requestSeal_32 (by decide) ?_
  refine rx_iload_n C.1 (pc := 33) d_Msg_requestSeal_33 rfl ?_
  refine rx_aload_n C.1 (pc := 34) d_Msg_requestSeal_34 rfl ?_
  refine g_Msg_21 D b ca C (by first | assumption | (constructor <;> omega) | omega | decide) (pc := 35) d_Msg_requestSeal_35 ?_
  refine q_Msg_41 C.1 (pc := 38) d_Msg_requestSeal_38 (c_Msg_stir l ) ⟨Nat.le_of_ble_eq_true rfl, Nat.le_of_ble_eq_true rfl⟩ ⟨Nat.zero_le _, Nat.zero_le _⟩ (Nat.le_of_ble_eq_true rfl) ?_
  exact rx_iret C (pc := 41) d_Msg_requestSeal_41 (by first | rfl | (unfold rv_Msg_requestSeal; rfl)) rfl

def rv_Msg_replySeal (σ : rMem) (q : Nat) (h : Int32) : Int32 := (rv_Msg_stir (rv_Msg_stir (rv_Msg_stir (rv_Msg_stir (rv_Msg_stir (rv_Msg_stir h 3) (σ q 3)) (σ q 5)) (σ q 6)) (σ q 7)) (σ q 4))
set_option maxHeartbeats 4000000 in
set_option maxRecDepth 100000 in
theorem c_Msg_replySeal (l : Launch) (D : va_G) (b : Nat) (ca : Nat → ClassId) {σ : rMem} {q : Nat} (hq : 3 ≤ q ∧ q < 45) {h : Int32} : rx_C l (rx_fin D b ca) y_Msg_replySeal b_Msg_replySeal 3 (some .int) (rx_rm 1) [.ref (rg_A (rx_fin D b ca) q), .int h] σ (some (.int (rv_Msg_replySeal σ q h))) σ := by
  refine rx_of (lo := [(0, .ref (rg_A (rx_fin D b ca) q)), (1, .int h)]) (by decide) (rx_fin_D D b ca) rfl (Nat.le_of_ble_eq_true rfl) rfl ?_
  intro p e s mm below meth c C
  refine rx_iload_n C.1 (pc := 0) d_Msg_replySeal_0 rfl ?_
  refine rx_iconst C.1 (v := 3) (pc := 1) d_Msg_replySeal_1 (by decide) ?_
  refine q_Msg_41 C.1 (pc := 2) d_Msg_replySeal_2 (c_Msg_stir l ) ⟨Nat.le_of_ble_eq_true rfl, Nat.le_of_ble_eq_true rfl⟩ ⟨Nat.zero_le _, Nat.zero_le _⟩ (Nat.le_of_ble_eq_true rfl) ?_
  refine rx_istore_n C.1 (pc := 5) d_Msg_replySeal_5 (by decide) ?_
  refine rx_iload_n C.1 (pc := 6) d_Msg_replySeal_6 rfl ?_
  refine rx_aload_n C.1 (pc := 7) d_Msg_replySeal_7 rfl ?_
  refine g_Msg_18 D b ca C (by first | assumption | (constructor <;> omega) | omega | decide) (pc := 8) d_Msg_replySeal_8 ?_
  refine q_Msg_41 C.1 (pc := 11) d_Msg_replySeal_11 (c_Msg_stir l ) ⟨Nat.le_of_ble_eq_true rfl, Nat.le_of_ble_eq_true rfl⟩ ⟨Nat.zero_le _, Nat.zero_le _⟩ (Nat.le_of_ble_eq_true rfl) ?_
  refine rx_istore_n C.1 (pc := 14) d_Msg_replySeal_14 (by decide) ?_
  refine rx_iload_n C.1 (pc := 15) d_Msg_replySeal_15 rfl ?_
  refine rx_aload_n C.1 (pc := 16) d_Msg_replySeal_16 rfl ?_
  refine g_Msg_27 D b ca C (by first | assumption | (constructor <;> omega) | omega | decide) (pc := 17) d_Msg_replySeal_17 ?_
  refine q_Msg_41 C.1 (pc := 20) d_Msg_replySeal_20 (c_Msg_stir l ) ⟨Nat.le_of_ble_eq_true rfl, Nat.le_of_ble_eq_true rfl⟩ ⟨Nat.zero_le _, Nat.zero_le _⟩ (Nat.le_of_ble_eq_true rfl) ?_
  refine rx_istore_n C.1 (pc := 23) d_Msg_replySeal_23 (by decide) ?_
  refine rx_iload_n C.1 (pc := 24) d_Msg_replySeal_24 rfl ?_
  refine rx_aload_n C.1 (pc := 25) d_Msg_replySeal_25 rfl ?_
  refine g_Msg_30 D b ca C (by first | assumption | (constructor <;> omega) | omega | decide) (pc := 26) d_Msg_replySeal_26 ?_
  refine q_Msg_41 C.1 (pc := 29) d_Msg_replySeal_29 (c_Msg_stir l ) ⟨Nat.le_of_ble_eq_true rfl, Nat.le_of_ble_eq_true rfl⟩ ⟨Nat.zero_le _, Nat.zero_le _⟩ (Nat.le_of_ble_eq_true rfl) ?_
  refine rx_istore_n C.1 (pc := 32) d_Msg_replySeal_32 (by decide) ?_
  refine rx_iload_n C.1 (pc := 33) d_Msg_replySeal_33 rfl ?_
  refine rx_aload_n C.1 (pc := 34) d_Msg_replySeal_34 rfl ?_
  refine g_Msg_33 D b ca C (by first | assumption | (constructor <;> omega) | omega | decide) (pc := 35) d_Msg_replySeal_35 ?_
  refine q_Msg_41 C.1 (pc := 38) d_Msg_replySeal_38 (c_Msg_stir l ) ⟨Nat.le_of_ble_eq_true rfl, Nat.le_of_ble_eq_true rfl⟩ ⟨Nat.zero_le _, Nat.zero_le _⟩ (Nat.le_of_ble_eq_true rfl) ?_
  refine rx_istore_n C.1 (pc := 41) d_Msg_replySeal_41 (by decide) ?_
  refine rx_iload_n C.1 (pc := 42) d_Msg_replySeal_42 rfl ?_
  refine rx_aload_n C.1 (pc := 43) d_Msg_replySeal_43 rfl ?_
  refine g_Msg_21 D b ca C (by first | assumption | (constructor <;> omega) | omega | decide) (pc := 44) d_Msg_replySeal_44 ?_
  refine q_Msg_41 C.1 (pc := 47) d_Msg_replySeal_47 (c_Msg_stir l ) ⟨Nat.le_of_ble_eq_true rfl, Nat.le_of_ble_eq_true rfl⟩ ⟨Nat.zero_le _, Nat.zero_le _⟩ (Nat.le_of_ble_eq_true rfl) ?_
  exact rx_iret C (pc := 50) d_Msg_replySeal_50 (by first | rfl | (unfold rv_Msg_replySeal; rfl)) rfl

def rv_Wire_holds (σ : rMem) (i : Int32) : Int32 := if i < 0 then 0 else (if (σ 1 1) ≤ i then 0 else 1)
set_option maxHeartbeats 4000000 in
set_option maxRecDepth 100000 in
theorem c_Wire_holds (l : Launch) (D : va_G) (b : Nat) (ca : Nat → ClassId) {σ : rMem} {i : Int32} : rx_C l (rx_fin D b ca) y_Wire_holds b_Wire_holds 2 (some .boolean) (rx_rm 0) [.ref (rg_A (rx_fin D b ca) 1), .int i] σ (some (.int (rv_Wire_holds σ i))) σ := by
  refine rx_of (lo := [(0, .ref (rg_A (rx_fin D b ca) 1)), (1, .int i)]) (by decide) (rx_fin_D D b ca) rfl (Nat.le_of_ble_eq_true rfl) rfl ?_
  intro p e s mm below meth c C
  refine rx_iload_n C.1 (pc := 0) d_Wire_holds_0 rfl ?_
  refine rx_if_lt C.1 (pc := 1) d_Wire_holds_1 (tgt := 16) rfl (fun h1 => ?_) (fun h1 => ?_)
  ·
    refine rx_iconst C.1 (v := 0) (pc := 16) d_Wire_holds_16 (by decide) ?_
    exact rx_zret C (pc := 17) d_Wire_holds_17 (Or.inl rfl) (by unfold rv_Wire_holds; first | (simp only [if_pos h1]; done) | (simp only [if_pos h1]; rfl)) rfl
  ·
    refine rx_iload_n C.1 (pc := 4) d_Wire_holds_4 rfl ?_
    refine rx_aload_n C.1 (pc := 5) d_Wire_holds_5 rfl ?_
    refine g_Wire_18 D b ca C (pc := 6) d_Wire_holds_6 ?_
    refine rx_icmp_ge C.1 (pc := 9) d_Wire_holds_9 (tgt := 16) rfl (fun h2 => ?_) (fun h2 => ?_)
    ·
      refine rx_iconst C.1 (v := 0) (pc := 16) d_Wire_holds_16 (by decide) ?_
      exact rx_zret C (pc := 17) d_Wire_holds_17 (Or.inl rfl) (by unfold rv_Wire_holds; first | (simp only [if_neg h1, if_pos h2]; done) | (simp only [if_neg h1, if_pos h2]; rfl)) rfl
    ·
      refine rx_iconst C.1 (v := 1) (pc := 12) d_Wire_holds_12 (by decide) ?_
      refine rx_goto C.1 (pc := 13) d_Wire_holds_13 (tgt := 17) rfl ?_
      exact rx_zret C (pc := 17) d_Wire_holds_17 (Or.inr rfl) (by unfold rv_Wire_holds; first | (simp only [if_neg h1, if_neg h2]; done) | (simp only [if_neg h1, if_neg h2]; rfl)) rfl

def rv_Wire_isFull (σ : rMem)  : Int32 := if (σ 1 1) < 40 then 0 else 1
set_option maxHeartbeats 4000000 in
set_option maxRecDepth 100000 in
theorem c_Wire_isFull (l : Launch) (D : va_G) (b : Nat) (ca : Nat → ClassId) {σ : rMem}  : rx_C l (rx_fin D b ca) y_Wire_isFull b_Wire_isFull 1 (some .boolean) (rx_rm 0) [.ref (rg_A (rx_fin D b ca) 1)] σ (some (.int (rv_Wire_isFull σ))) σ := by
  refine rx_of (lo := [(0, .ref (rg_A (rx_fin D b ca) 1))]) (by decide) (rx_fin_D D b ca) rfl (Nat.le_of_ble_eq_true rfl) rfl ?_
  intro p e s mm below meth c C
  refine rx_aload_n C.1 (pc := 0) d_Wire_isFull_0 rfl ?_
  refine g_Wire_18 D b ca C (pc := 1) d_Wire_isFull_1 ?_
  refine rx_bipush C.1 (v := 40) (pc := 4) d_Wire_isFull_4 (by decide) ?_
  refine rx_icmp_lt C.1 (pc := 6) d_Wire_isFull_6 (tgt := 13) rfl (fun h1 => ?_) (fun h1 => ?_)
  ·
    refine rx_iconst C.1 (v := 0) (pc := 13) d_Wire_isFull_13 (by decide) ?_
    exact rx_zret C (pc := 14) d_Wire_isFull_14 (Or.inl rfl) (by unfold rv_Wire_isFull; first | (simp only [if_pos h1]; done) | (simp only [if_pos h1]; rfl)) rfl
  ·
    refine rx_iconst C.1 (v := 1) (pc := 9) d_Wire_isFull_9 (by decide) ?_
    refine rx_goto C.1 (pc := 10) d_Wire_isFull_10 (tgt := 14) rfl ?_
    exact rx_zret C (pc := 14) d_Wire_isFull_14 (Or.inr rfl) (by unfold rv_Wire_isFull; first | (simp only [if_neg h1]; done) | (simp only [if_neg h1]; rfl)) rfl

theorem nx_full {σ : rMem} (h : rv_Wire_isFull σ = 0) : (σ 1 1).toInt < 40 := by
  unfold rv_Wire_isFull at h
  by_cases h1 : σ 1 1 < 40
  · have h2 := rx_ltI.mp h1
    rw [rx_I40] at h2
    exact h2
  · rw [if_neg h1] at h
    exact absurd h (by decide)
theorem nx_inc {σ : rMem} (hI : rx_SI σ) (h : rv_Wire_isFull σ = 0) : (σ 1 1 + 1).toInt = (σ 1 1).toInt + 1 := by
  have h1 := nx_full h
  have h2 := hI.1
  rw [rx_addI (by rw [rx_I1]; omega) (by rw [rx_I1]; omega), rx_I1]
theorem nx_size {σ : rMem} (hI : rx_SI σ) (h : rv_Wire_isFull σ = 0) : 0 ≤ (σ 1 1 + 1).toInt ∧ (σ 1 1 + 1).toInt ≤ 40 := by
  have h1 := nx_full h
  have h2 := hI.1
  rw [nx_inc hI h]
  omega
theorem nx_dec {σ : rMem} (hI : rx_SI σ) (h : rv_Wire_isFull σ = 0) : rx_wr σ 1 1 (σ 1 1 + 1) 1 1 - 1 = σ 1 1 := by
  have h1 := nx_full h
  have h2 := hI.1
  have h3 := nx_inc hI h
  rw [rx_wr_eq, rx_eqI, rx_subI (by rw [rx_I1]; omega) (by rw [rx_I1]; omega), rx_I1]
  omega
theorem nx_ix {σ : rMem} (hI : rx_SI σ) (h : rv_Wire_isFull σ = 0) : vp_in (rx_wr σ 1 1 (σ 1 1 + 1) 1 1 - 1) 41 := by
  have h1 := nx_full h
  have h2 := hI.1
  rw [nx_dec hI h]
  exact rx_vinI (by omega) (by omega)
theorem nx_v40 : vp_in 40 41 := vp_in_iff.mpr (by decide)
def sp_Wire_nextRow (σ : rMem)  : rMem × Nat := if (rv_Wire_isFull σ) = 0 then (let m1 := rx_wr σ 1 1 ((σ 1 1) + 1); (m1, (2 + (m1 2 ((m1 1 1) - 1).toNatClampNeg).toNatClampNeg))) else (σ, (2 + (σ 2 (Int32.toNatClampNeg 40)).toNatClampNeg))
set_option maxHeartbeats 4000000 in
set_option maxRecDepth 100000 in
theorem c_Wire_nextRow (l : Launch) (D : va_G) (b : Nat) (ca : Nat → ClassId) {σ : rMem}  : rx_C l (rx_fin D b ca) y_Wire_nextRow b_Wire_nextRow 1 (some (.object "RoamingNet$Message")) (rx_rm 1) [.ref (rg_A (rx_fin D b ca) 1)] σ (some (.ref (rg_A (rx_fin D b ca) (sp_Wire_nextRow σ).2))) (sp_Wire_nextRow σ).1 := by
  refine rx_of (lo := [(0, .ref (rg_A (rx_fin D b ca) 1))]) (by decide) (rx_fin_D D b ca) rfl (Nat.le_of_ble_eq_true rfl) rfl ?_
  intro p e s mm below meth c C
  refine rx_aload_n C.1 (pc := 0) d_Wire_nextRow_0 rfl ?_
  refine q_Wire_22 D b ca C (pc := 1) d_Wire_nextRow_1 (c_Wire_isFull l D b ca ) ⟨Nat.le_of_ble_eq_true rfl, Nat.le_of_ble_eq_true rfl⟩ ⟨Nat.zero_le _, Nat.zero_le _⟩ (Nat.le_of_ble_eq_true rfl) ?_
  refine rx_if_eq C.1 (pc := 4) d_Wire_nextRow_4 (tgt := 15) rfl (fun h1 => ?_) (fun h1 => ?_)
  ·
    refine rx_aload_n C.1 (pc := 15) d_Wire_nextRow_15 rfl ?_
    refine rx_dup C.1 (pc := 16) d_Wire_nextRow_16 rfl ?_
    refine g_Wire_18 D b ca C (pc := 17) d_Wire_nextRow_17 ?_
    refine rx_iconst C.1 (v := 1) (pc := 20) d_Wire_nextRow_20 (by decide) ?_
    refine rx_iadd C.1 (pc := 21) d_Wire_nextRow_21 ?_
    refine rx_si (fun hI => ?_)
    have hz1 := nx_size hI h1
    refine p_Wire_18 D b ca C (pc := 22) d_Wire_nextRow_22 (by assumption) ?_
    refine rx_aload_n C.1 (pc := 25) d_Wire_nextRow_25 rfl ?_
    refine g_Wire_11 D b ca C (pc := 26) d_Wire_nextRow_26 ?_
    refine rx_aload_n C.1 (pc := 29) d_Wire_nextRow_29 rfl ?_
    refine g_Wire_18 D b ca C (pc := 30) d_Wire_nextRow_30 ?_
    refine rx_iconst C.1 (v := 1) (pc := 33) d_Wire_nextRow_33 (by decide) ?_
    refine rx_isub C.1 (pc := 34) d_Wire_nextRow_34 ?_
    have hz2 := nx_ix hI h1
    refine rx_ald_rows D b ca C (pc := 35) d_Wire_nextRow_35 (by first | assumption | exact rx_in2 (by assumption) | exact rx_v02 | exact rx_v12) ?_
    exact rx_aret C (pc := 36) d_Wire_nextRow_36 (by unfold sp_Wire_nextRow; first | (simp only [if_pos h1]; done) | (simp only [if_pos h1]; rfl)) (by unfold sp_Wire_nextRow; first | (simp only [if_pos h1]; done) | (simp only [if_pos h1]; rfl))
  ·
    refine rx_aload_n C.1 (pc := 7) d_Wire_nextRow_7 rfl ?_
    refine g_Wire_11 D b ca C (pc := 8) d_Wire_nextRow_8 ?_
    refine rx_bipush C.1 (v := 40) (pc := 11) d_Wire_nextRow_11 (by decide) ?_
    refine rx_ald_rows D b ca C (pc := 13) d_Wire_nextRow_13 nx_v40 ?_
    exact rx_aret C (pc := 14) d_Wire_nextRow_14 (by unfold sp_Wire_nextRow; first | (simp only [if_neg h1]; done) | (simp only [if_neg h1]; rfl)) (by unfold sp_Wire_nextRow; first | (simp only [if_neg h1]; done) | (simp only [if_neg h1]; rfl))
theorem rq_Wire_nextRow {σ : rMem} (hI : rx_SI σ) : 3 ≤ (sp_Wire_nextRow σ).2 ∧ (sp_Wire_nextRow σ).2 < 45 := by
  unfold sp_Wire_nextRow
  by_cases h : rv_Wire_isFull σ = 0
  · rw [if_pos h]
    show 3 ≤ 2 + (rx_wr σ 1 1 (σ 1 1 + 1) 2 (rx_wr σ 1 1 (σ 1 1 + 1) 1 1 - 1).toNatClampNeg).toNatClampNeg ∧ _
    have h1 := rx_vn (nx_ix hI h)
    rw [rx_wr_ne (a := 2) (by decide)]
    exact rx_rowq hI h1
  · rw [if_neg h]
    exact rx_rowq hI (k := 40) (by decide)

def sp_Wire_sendTo (σ : rMem) (tg : Int32) (kd : Int32) (mo : Int32) (nu : Int32) : rMem × Nat := let m1 := (sp_Wire_nextRow σ).1; let m2 := sp_Msg_begin m1 ((sp_Wire_nextRow σ).2) kd tg mo nu; (m2, (sp_Wire_nextRow σ).2)
set_option maxHeartbeats 4000000 in
set_option maxRecDepth 100000 in
theorem c_Wire_sendTo (l : Launch) (D : va_G) (b : Nat) (ca : Nat → ClassId) {σ : rMem} {tg : Int32} {kd : Int32} {mo : Int32} {nu : Int32} : rx_C l (rx_fin D b ca) y_Wire_sendTo b_Wire_sendTo 6 (some (.object "RoamingNet$Message")) (rx_rm 2) [.ref (rg_A (rx_fin D b ca) 1), .int tg, .int kd, .int mo, .int nu] σ (some (.ref (rg_A (rx_fin D b ca) (sp_Wire_sendTo σ tg kd mo nu).2))) (sp_Wire_sendTo σ tg kd mo nu).1 := by
  refine rx_of (lo := [(0, .ref (rg_A (rx_fin D b ca) 1)), (1, .int tg), (2, .int kd), (3, .int mo), (4, .int nu)]) (by decide) (rx_fin_D D b ca) rfl (Nat.le_of_ble_eq_true rfl) rfl ?_
  intro p e s mm below meth c C
  refine rx_aload_n C.1 (pc := 0) d_Wire_sendTo_0 rfl ?_
  refine q_Wire_26 D b ca C (pc := 1) d_Wire_sendTo_1 (c_Wire_nextRow l D b ca ) (fun hI => rq_Wire_nextRow hI) ⟨Nat.le_of_ble_eq_true rfl, Nat.le_of_ble_eq_true rfl⟩ ⟨Nat.zero_le _, Nat.zero_le _⟩ (Nat.le_of_ble_eq_true rfl) (fun hq1 => ?_)
  refine rx_astore C.1 (pc := 4) d_Wire_sendTo_4 (by decide) ?_
  refine rx_aload C.1 (pc := 6) d_Wire_sendTo_6 rfl ?_
  refine rx_iload_n C.1 (pc := 8) d_Wire_sendTo_8 rfl ?_
  refine rx_iload_n C.1 (pc := 9) d_Wire_sendTo_9 rfl ?_
  refine rx_iload_n C.1 (pc := 10) d_Wire_sendTo_10 rfl ?_
  refine rx_iload C.1 (pc := 11) d_Wire_sendTo_11 rfl ?_
  refine q_Wire_30 D b ca C (by first | assumption | (constructor <;> omega) | omega | decide) (pc := 13) d_Wire_sendTo_13 (c_Msg_begin l D b ca (by first | assumption | (constructor <;> omega) | omega | decide) ) ⟨Nat.le_of_ble_eq_true rfl, Nat.le_of_ble_eq_true rfl⟩ ⟨Nat.zero_le _, Nat.zero_le _⟩ (Nat.le_of_ble_eq_true rfl) ?_
  refine rx_aload C.1 (pc := 16) d_Wire_sendTo_16 rfl ?_
  exact rx_aret C (pc := 18) d_Wire_sendTo_18 (by first | rfl | (unfold sp_Wire_sendTo; rfl)) (by first | rfl | (unfold sp_Wire_sendTo; rfl))
theorem rq_Wire_sendTo {σ : rMem} {tg kd mo nu : Int32} (hI : rx_SI σ) : 3 ≤ (sp_Wire_sendTo σ tg kd mo nu).2 ∧ (sp_Wire_sendTo σ tg kd mo nu).2 < 45 := rq_Wire_nextRow hI

def sp_Wire_sendInNetwork (σ : rMem) (nw : Int32) (kd : Int32) (mo : Int32) (nu : Int32) : rMem × Nat := let m1 := (sp_Wire_sendTo σ 5 kd mo nu).1; let m2 := rx_wr m1 ((sp_Wire_sendTo σ 5 kd mo nu).2) 2 nw; (m2, (sp_Wire_sendTo σ 5 kd mo nu).2)
set_option maxHeartbeats 4000000 in
set_option maxRecDepth 100000 in
theorem c_Wire_sendInNetwork (l : Launch) (D : va_G) (b : Nat) (ca : Nat → ClassId) {σ : rMem} {nw : Int32} {kd : Int32} {mo : Int32} {nu : Int32} : rx_C l (rx_fin D b ca) y_Wire_sendInNetwork b_Wire_sendInNetwork 6 (some (.object "RoamingNet$Message")) (rx_rm 3) [.ref (rg_A (rx_fin D b ca) 1), .int nw, .int kd, .int mo, .int nu] σ (some (.ref (rg_A (rx_fin D b ca) (sp_Wire_sendInNetwork σ nw kd mo nu).2))) (sp_Wire_sendInNetwork σ nw kd mo nu).1 := by
  refine rx_of (lo := [(0, .ref (rg_A (rx_fin D b ca) 1)), (1, .int nw), (2, .int kd), (3, .int mo), (4, .int nu)]) (by decide) (rx_fin_D D b ca) rfl (Nat.le_of_ble_eq_true rfl) rfl ?_
  intro p e s mm below meth c C
  refine rx_aload_n C.1 (pc := 0) d_Wire_sendInNetwork_0 rfl ?_
  refine rx_iconst C.1 (v := 5) (pc := 1) d_Wire_sendInNetwork_1 (by decide) ?_
  refine rx_iload_n C.1 (pc := 2) d_Wire_sendInNetwork_2 rfl ?_
  refine rx_iload_n C.1 (pc := 3) d_Wire_sendInNetwork_3 rfl ?_
  refine rx_iload C.1 (pc := 4) d_Wire_sendInNetwork_4 rfl ?_
  refine q_Wire_34 D b ca C (pc := 6) d_Wire_sendInNetwork_6 (c_Wire_sendTo l D b ca ) (fun hI => rq_Wire_sendTo hI) ⟨Nat.le_of_ble_eq_true rfl, Nat.le_of_ble_eq_true rfl⟩ ⟨Nat.zero_le _, Nat.zero_le _⟩ (Nat.le_of_ble_eq_true rfl) (fun hq1 => ?_)
  refine rx_astore C.1 (pc := 9) d_Wire_sendInNetwork_9 (by decide) ?_
  refine rx_aload C.1 (pc := 11) d_Wire_sendInNetwork_11 rfl ?_
  refine rx_iload_n C.1 (pc := 13) d_Wire_sendInNetwork_13 rfl ?_
  refine p_Wire_38 D b ca C (by first | assumption | (constructor <;> omega) | omega | decide) (pc := 14) d_Wire_sendInNetwork_14 ?_
  refine rx_aload C.1 (pc := 17) d_Wire_sendInNetwork_17 rfl ?_
  exact rx_aret C (pc := 19) d_Wire_sendInNetwork_19 (by first | rfl | (unfold sp_Wire_sendInNetwork; rfl)) (by first | rfl | (unfold sp_Wire_sendInNetwork; rfl))
theorem rq_Wire_sendInNetwork {σ : rMem} {nw kd mo nu : Int32} (hI : rx_SI σ) : 3 ≤ (sp_Wire_sendInNetwork σ nw kd mo nu).2 ∧ (sp_Wire_sendInNetwork σ nw kd mo nu).2 < 45 := rq_Wire_nextRow hI

def sp_Wire_sendOn (σ : rMem) (r : Nat) (tg : Int32) (nw : Int32) : rMem := let m1 := (sp_Wire_nextRow σ).1; let m2 := sp_Msg_copyFrom m1 ((sp_Wire_nextRow σ).2) r; let m3 := rx_wr m2 ((sp_Wire_nextRow σ).2) 1 tg; let m4 := rx_wr m3 ((sp_Wire_nextRow σ).2) 2 nw; m4
set_option maxHeartbeats 4000000 in
set_option maxRecDepth 100000 in
theorem c_Wire_sendOn (l : Launch) (D : va_G) (b : Nat) (ca : Nat → ClassId) {σ : rMem} {r : Nat} {tg : Int32} {nw : Int32} (hr : 3 ≤ r ∧ r < 45) : rx_C l (rx_fin D b ca) y_Wire_sendOn b_Wire_sendOn 5 none (rx_rm 2) [.ref (rg_A (rx_fin D b ca) 1), .ref (rg_A (rx_fin D b ca) r), .int tg, .int nw] σ none (sp_Wire_sendOn σ r tg nw) := by
  refine rx_of (lo := [(0, .ref (rg_A (rx_fin D b ca) 1)), (1, .ref (rg_A (rx_fin D b ca) r)), (2, .int tg), (3, .int nw)]) (by decide) (rx_fin_D D b ca) rfl (Nat.le_of_ble_eq_true rfl) rfl ?_
  intro p e s mm below meth c C
  refine rx_aload_n C.1 (pc := 0) d_Wire_sendOn_0 rfl ?_
  refine q_Wire_26 D b ca C (pc := 1) d_Wire_sendOn_1 (c_Wire_nextRow l D b ca ) (fun hI => rq_Wire_nextRow hI) ⟨Nat.le_of_ble_eq_true rfl, Nat.le_of_ble_eq_true rfl⟩ ⟨Nat.zero_le _, Nat.zero_le _⟩ (Nat.le_of_ble_eq_true rfl) (fun hq1 => ?_)
  refine rx_astore C.1 (pc := 4) d_Wire_sendOn_4 (by decide) ?_
  refine rx_aload C.1 (pc := 6) d_Wire_sendOn_6 rfl ?_
  refine rx_aload_n C.1 (pc := 8) d_Wire_sendOn_8 rfl ?_
  refine q_Wire_41 D b ca C (by first | assumption | (constructor <;> omega) | omega | decide) (pc := 9) d_Wire_sendOn_9 (c_Msg_copyFrom l D b ca (by first | assumption | (constructor <;> omega) | omega | decide) (by first | assumption | exact rx_iM0 | exact rx_iM1 | (constructor <;> omega))) ⟨Nat.le_of_ble_eq_true rfl, Nat.le_of_ble_eq_true rfl⟩ ⟨Nat.zero_le _, Nat.zero_le _⟩ (Nat.le_of_ble_eq_true rfl) ?_
  refine rx_aload C.1 (pc := 12) d_Wire_sendOn_12 rfl ?_
  refine rx_iload_n C.1 (pc := 14) d_Wire_sendOn_14 rfl ?_
  refine p_Wire_45 D b ca C (by first | assumption | (constructor <;> omega) | omega | decide) (pc := 15) d_Wire_sendOn_15 ?_
  refine rx_aload C.1 (pc := 18) d_Wire_sendOn_18 rfl ?_
  refine rx_iload_n C.1 (pc := 20) d_Wire_sendOn_20 rfl ?_
  refine p_Wire_38 D b ca C (by first | assumption | (constructor <;> omega) | omega | decide) (pc := 21) d_Wire_sendOn_21 ?_
  exact rx_vret C (pc := 24) d_Wire_sendOn_24 (by first | rfl | (unfold sp_Wire_sendOn; rfl))

def rv_Mob_endsSoon (σ : rMem) (j : Nat) : Int32 := if (σ (46 + j) 6) = 0 then 0 else (if ((σ 1 2) + 4) < (σ (46 + j) 7) then 0 else 1)
set_option maxHeartbeats 4000000 in
set_option maxRecDepth 100000 in
theorem c_Mob_endsSoon (l : Launch) (D : va_G) (b : Nat) (ca : Nat → ClassId) {σ : rMem} {j : Nat} (hj : j < 2) : rx_C l (rx_fin D b ca) y_Mob_endsSoon b_Mob_endsSoon 1 (some .boolean) (rx_rm 0) [.ref (rg_A (rx_fin D b ca) (46 + j))] σ (some (.int (rv_Mob_endsSoon σ j))) σ := by
  refine rx_of (lo := [(0, .ref (rg_A (rx_fin D b ca) (46 + j)))]) (by decide) (rx_fin_D D b ca) rfl (Nat.le_of_ble_eq_true rfl) rfl ?_
  intro p e s mm below meth c C
  refine rx_aload_n C.1 (pc := 0) d_Mob_endsSoon_0 rfl ?_
  refine g_Mob_22 D b ca C (by first | assumption | (constructor <;> omega) | omega | decide) (pc := 1) d_Mob_endsSoon_1 ?_
  refine rx_if_eq C.1 (pc := 4) d_Mob_endsSoon_4 (tgt := 27) rfl (fun h1 => ?_) (fun h1 => ?_)
  ·
    refine rx_iconst C.1 (v := 0) (pc := 27) d_Mob_endsSoon_27 (by decide) ?_
    exact rx_zret C (pc := 28) d_Mob_endsSoon_28 (Or.inl rfl) (by unfold rv_Mob_endsSoon; first | (simp only [if_pos h1]; done) | (simp only [if_pos h1]; rfl)) rfl
  ·
    refine rx_aload_n C.1 (pc := 7) d_Mob_endsSoon_7 rfl ?_
    refine g_Mob_26 D b ca C (by first | assumption | (constructor <;> omega) | omega | decide) (pc := 8) d_Mob_endsSoon_8 ?_
    refine rx_aload_n C.1 (pc := 11) d_Mob_endsSoon_11 rfl ?_
    refine g_Mob_18 D b ca C (by first | assumption | (constructor <;> omega) | omega | decide) (pc := 12) d_Mob_endsSoon_12 ?_
    refine g_Mob_55 D b ca C (pc := 15) d_Mob_endsSoon_15 ?_
    refine rx_iconst C.1 (v := 4) (pc := 18) d_Mob_endsSoon_18 (by decide) ?_
    refine rx_iadd C.1 (pc := 19) d_Mob_endsSoon_19 ?_
    refine rx_icmp_gt C.1 (pc := 20) d_Mob_endsSoon_20 (tgt := 27) rfl (fun h2 => ?_) (fun h2 => ?_)
    ·
      refine rx_iconst C.1 (v := 0) (pc := 27) d_Mob_endsSoon_27 (by decide) ?_
      exact rx_zret C (pc := 28) d_Mob_endsSoon_28 (Or.inl rfl) (by unfold rv_Mob_endsSoon; first | (simp only [if_neg h1, if_pos h2]; done) | (simp only [if_neg h1, if_pos h2]; rfl)) rfl
    ·
      refine rx_iconst C.1 (v := 1) (pc := 23) d_Mob_endsSoon_23 (by decide) ?_
      refine rx_goto C.1 (pc := 24) d_Mob_endsSoon_24 (tgt := 28) rfl ?_
      exact rx_zret C (pc := 28) d_Mob_endsSoon_28 (Or.inr rfl) (by unfold rv_Mob_endsSoon; first | (simp only [if_neg h1, if_neg h2]; done) | (simp only [if_neg h1, if_neg h2]; rfl)) rfl

def sp_Mob_registerWith (σ : rMem) (j : Nat) (a : Int32) : rMem := let m1 := rx_wr σ (46 + j) 5 ((σ (46 + j) 5) + 1); let m2 := (sp_Wire_sendTo m1 a 2 (m1 (46 + j) 0) (m1 (46 + j) 5)).1; let m3 := rx_wr m2 ((sp_Wire_sendTo m1 a 2 (m1 (46 + j) 0) (m1 (46 + j) 5)).2) 5 a; if a = 0 then (let m9 := rx_wr m3 ((sp_Wire_sendTo m1 a 2 (m1 (46 + j) 0) (m1 (46 + j) 5)).2) 7 0; let m10 := rx_wr m9 ((sp_Wire_sendTo m1 a 2 (m1 (46 + j) 0) (m1 (46 + j) 5)).2) 8 (rv_Msg_requestSeal m9 ((sp_Wire_sendTo m1 a 2 (m1 (46 + j) 0) (m1 (46 + j) 5)).2) (m9 (46 + j) 3)); let m11 := rx_wr m10 (46 + j) 10 (m10 (46 + j) 5); let m12 := rx_wr m11 (46 + j) 11 a; let m13 := rx_wr m12 (46 + j) 12 (m12 1 2); m13) else (let m4 := rx_wr m3 ((sp_Wire_sendTo m1 a 2 (m1 (46 + j) 0) (m1 (46 + j) 5)).2) 7 (m3 (46 + j) 1); let m5 := rx_wr m4 ((sp_Wire_sendTo m1 a 2 (m1 (46 + j) 0) (m1 (46 + j) 5)).2) 8 (rv_Msg_requestSeal m4 ((sp_Wire_sendTo m1 a 2 (m1 (46 + j) 0) (m1 (46 + j) 5)).2) (m4 (46 + j) 3)); let m6 := rx_wr m5 (46 + j) 10 (m5 (46 + j) 5); let m7 := rx_wr m6 (46 + j) 11 a; let m8 := rx_wr m7 (46 + j) 12 (m7 1 2); m8)
set_option maxHeartbeats 4000000 in
set_option maxRecDepth 100000 in
theorem c_Mob_registerWith (l : Launch) (D : va_G) (b : Nat) (ca : Nat → ClassId) {σ : rMem} {j : Nat} (hj : j < 2) {a : Int32} : rx_C l (rx_fin D b ca) y_Mob_registerWith b_Mob_registerWith 3 none (rx_rm 3) [.ref (rg_A (rx_fin D b ca) (46 + j)), .int a] σ none (sp_Mob_registerWith σ j a) := by
  refine rx_of (lo := [(0, .ref (rg_A (rx_fin D b ca) (46 + j))), (1, .int a)]) (by decide) (rx_fin_D D b ca) rfl (Nat.le_of_ble_eq_true rfl) rfl ?_
  intro p e s mm below meth c C
  refine rx_aload_n C.1 (pc := 0) d_Mob_registerWith_0 rfl ?_
  refine rx_dup C.1 (pc := 1) d_Mob_registerWith_1 rfl ?_
  refine g_Mob_76 D b ca C (by first | assumption | (constructor <;> omega) | omega | decide) (pc := 2) d_Mob_registerWith_2 ?_
  refine rx_iconst C.1 (v := 1) (pc := 5) d_Mob_registerWith_5 (by decide) ?_
  refine rx_iadd C.1 (pc := 6) d_Mob_registerWith_6 ?_
  refine p_Mob_76 D b ca C (by first | assumption | (constructor <;> omega) | omega | decide) (pc := 7) d_Mob_registerWith_7 ?_
  refine rx_aload_n C.1 (pc := 10) d_Mob_registerWith_10 rfl ?_
  refine g_Mob_18 D b ca C (by first | assumption | (constructor <;> omega) | omega | decide) (pc := 11) d_Mob_registerWith_11 ?_
  refine rx_iload_n C.1 (pc := 14) d_Mob_registerWith_14 rfl ?_
  refine rx_iconst C.1 (v := 2) (pc := 15) d_Mob_registerWith_15 (by decide) ?_
  refine rx_aload_n C.1 (pc := 16) d_Mob_registerWith_16 rfl ?_
  refine g_Mob_9 D b ca C (by first | assumption | (constructor <;> omega) | omega | decide) (pc := 17) d_Mob_registerWith_17 ?_
  refine rx_aload_n C.1 (pc := 20) d_Mob_registerWith_20 rfl ?_
  refine g_Mob_76 D b ca C (by first | assumption | (constructor <;> omega) | omega | decide) (pc := 21) d_Mob_registerWith_21 ?_
  refine q_Mob_79 D b ca C (pc := 24) d_Mob_registerWith_24 (c_Wire_sendTo l D b ca ) (fun hI => rq_Wire_sendTo hI) ⟨Nat.le_of_ble_eq_true rfl, Nat.le_of_ble_eq_true rfl⟩ ⟨Nat.zero_le _, Nat.zero_le _⟩ (Nat.le_of_ble_eq_true rfl) (fun hq1 => ?_)
  refine rx_astore_n C.1 (pc := 27) d_Mob_registerWith_27 (by decide) ?_
  refine rx_aload_n C.1 (pc := 28) d_Mob_registerWith_28 rfl ?_
  refine rx_iload_n C.1 (pc := 29) d_Mob_registerWith_29 rfl ?_
  refine p_Mob_83 D b ca C (by first | assumption | (constructor <;> omega) | omega | decide) (pc := 30) d_Mob_registerWith_30 ?_
  refine rx_aload_n C.1 (pc := 33) d_Mob_registerWith_33 rfl ?_
  refine rx_iload_n C.1 (pc := 34) d_Mob_registerWith_34 rfl ?_
  refine rx_if_ne C.1 (pc := 35) d_Mob_registerWith_35 (tgt := 42) rfl (fun h1 => ?_) (fun h1 => ?_)
  ·
    refine rx_aload_n C.1 (pc := 42) d_Mob_registerWith_42 rfl ?_
    refine g_Mob_15 D b ca C (by first | assumption | (constructor <;> omega) | omega | decide) (pc := 43) d_Mob_registerWith_43 ?_
    refine p_Mob_86 D b ca C (by first | assumption | (constructor <;> omega) | omega | decide) (pc := 46) d_Mob_registerWith_46 ?_
    refine rx_aload_n C.1 (pc := 49) d_Mob_registerWith_49 rfl ?_
    refine rx_aload_n C.1 (pc := 50) d_Mob_registerWith_50 rfl ?_
    refine rx_aload_n C.1 (pc := 51) d_Mob_registerWith_51 rfl ?_
    refine g_Mob_89 D b ca C (by first | assumption | (constructor <;> omega) | omega | decide) (pc := 52) d_Mob_registerWith_52 ?_
    refine q_Mob_92 D b ca C (by first | assumption | (constructor <;> omega) | omega | decide) (pc := 55) d_Mob_registerWith_55 (c_Msg_requestSeal l D b ca (by first | assumption | (constructor <;> omega) | omega | decide) ) ⟨Nat.le_of_ble_eq_true rfl, Nat.le_of_ble_eq_true rfl⟩ ⟨Nat.zero_le _, Nat.zero_le _⟩ (Nat.le_of_ble_eq_true rfl) ?_
    refine p_Mob_96 D b ca C (by first | assumption | (constructor <;> omega) | omega | decide) (pc := 58) d_Mob_registerWith_58 ?_
    refine rx_aload_n C.1 (pc := 61) d_Mob_registerWith_61 rfl ?_
    refine rx_aload_n C.1 (pc := 62) d_Mob_registerWith_62 rfl ?_
    refine g_Mob_76 D b ca C (by first | assumption | (constructor <;> omega) | omega | decide) (pc := 63) d_Mob_registerWith_63 ?_
    refine p_Mob_63 D b ca C (by first | assumption | (constructor <;> omega) | omega | decide) (pc := 66) d_Mob_registerWith_66 ?_
    refine rx_aload_n C.1 (pc := 69) d_Mob_registerWith_69 rfl ?_
    refine rx_iload_n C.1 (pc := 70) d_Mob_registerWith_70 rfl ?_
    refine p_Mob_66 D b ca C (by first | assumption | (constructor <;> omega) | omega | decide) (pc := 71) d_Mob_registerWith_71 ?_
    refine rx_aload_n C.1 (pc := 74) d_Mob_registerWith_74 rfl ?_
    refine rx_aload_n C.1 (pc := 75) d_Mob_registerWith_75 rfl ?_
    refine g_Mob_18 D b ca C (by first | assumption | (constructor <;> omega) | omega | decide) (pc := 76) d_Mob_registerWith_76 ?_
    refine g_Mob_55 D b ca C (pc := 79) d_Mob_registerWith_79 ?_
    refine p_Mob_99 D b ca C (by first | assumption | (constructor <;> omega) | omega | decide) (pc := 82) d_Mob_registerWith_82 ?_
    exact rx_vret C (pc := 85) d_Mob_registerWith_85 (by unfold sp_Mob_registerWith; first | (simp only [if_neg h1]; done) | (simp only [if_neg h1]; rfl))
  ·
    refine rx_iconst C.1 (v := 0) (pc := 38) d_Mob_registerWith_38 (by decide) ?_
    refine rx_goto C.1 (pc := 39) d_Mob_registerWith_39 (tgt := 46) rfl ?_
    refine p_Mob_86 D b ca C (by first | assumption | (constructor <;> omega) | omega | decide) (pc := 46) d_Mob_registerWith_46 ?_
    refine rx_aload_n C.1 (pc := 49) d_Mob_registerWith_49 rfl ?_
    refine rx_aload_n C.1 (pc := 50) d_Mob_registerWith_50 rfl ?_
    refine rx_aload_n C.1 (pc := 51) d_Mob_registerWith_51 rfl ?_
    refine g_Mob_89 D b ca C (by first | assumption | (constructor <;> omega) | omega | decide) (pc := 52) d_Mob_registerWith_52 ?_
    refine q_Mob_92 D b ca C (by first | assumption | (constructor <;> omega) | omega | decide) (pc := 55) d_Mob_registerWith_55 (c_Msg_requestSeal l D b ca (by first | assumption | (constructor <;> omega) | omega | decide) ) ⟨Nat.le_of_ble_eq_true rfl, Nat.le_of_ble_eq_true rfl⟩ ⟨Nat.zero_le _, Nat.zero_le _⟩ (Nat.le_of_ble_eq_true rfl) ?_
    refine p_Mob_96 D b ca C (by first | assumption | (constructor <;> omega) | omega | decide) (pc := 58) d_Mob_registerWith_58 ?_
    refine rx_aload_n C.1 (pc := 61) d_Mob_registerWith_61 rfl ?_
    refine rx_aload_n C.1 (pc := 62) d_Mob_registerWith_62 rfl ?_
    refine g_Mob_76 D b ca C (by first | assumption | (constructor <;> omega) | omega | decide) (pc := 63) d_Mob_registerWith_63 ?_
    refine p_Mob_63 D b ca C (by first | assumption | (constructor <;> omega) | omega | decide) (pc := 66) d_Mob_registerWith_66 ?_
    refine rx_aload_n C.1 (pc := 69) d_Mob_registerWith_69 rfl ?_
    refine rx_iload_n C.1 (pc := 70) d_Mob_registerWith_70 rfl ?_
    refine p_Mob_66 D b ca C (by first | assumption | (constructor <;> omega) | omega | decide) (pc := 71) d_Mob_registerWith_71 ?_
    refine rx_aload_n C.1 (pc := 74) d_Mob_registerWith_74 rfl ?_
    refine rx_aload_n C.1 (pc := 75) d_Mob_registerWith_75 rfl ?_
    refine g_Mob_18 D b ca C (by first | assumption | (constructor <;> omega) | omega | decide) (pc := 76) d_Mob_registerWith_76 ?_
    refine g_Mob_55 D b ca C (pc := 79) d_Mob_registerWith_79 ?_
    refine p_Mob_99 D b ca C (by first | assumption | (constructor <;> omega) | omega | decide) (pc := 82) d_Mob_registerWith_82 ?_
    exact rx_vret C (pc := 85) d_Mob_registerWith_85 (by unfold sp_Mob_registerWith; first | (simp only [if_pos h1]; done) | (simp only [if_pos h1]; rfl))

def sp_Mob_takeAdvert (σ : rMem) (j : Nat) (a : Int32) : rMem := let m1 := rx_wr σ (46 + j) 8 a; let m2 := rx_wr m1 (46 + j) 9 ((m1 1 2) + 12); if (m2 (46 + j) 10) = 0 then (if (m2 (46 + j) 6) = a then (if (rv_Mob_endsSoon m2 j) = 0 then m2 else (let m4 := sp_Mob_registerWith m2 j a; m4)) else (let m3 := sp_Mob_registerWith m2 j a; m3)) else (if (m2 (46 + j) 11) = a then (if (m2 (46 + j) 6) = a then (if (rv_Mob_endsSoon m2 j) = 0 then m2 else m2) else m2) else (if (m2 (46 + j) 6) = a then (if (rv_Mob_endsSoon m2 j) = 0 then m2 else (let m6 := sp_Mob_registerWith m2 j a; m6)) else (let m5 := sp_Mob_registerWith m2 j a; m5)))
set_option maxHeartbeats 4000000 in
set_option maxRecDepth 100000 in
theorem c_Mob_takeAdvert (l : Launch) (D : va_G) (b : Nat) (ca : Nat → ClassId) {σ : rMem} {j : Nat} (hj : j < 2) {a : Int32} : rx_C l (rx_fin D b ca) y_Mob_takeAdvert b_Mob_takeAdvert 3 none (rx_rm 4) [.ref (rg_A (rx_fin D b ca) (46 + j)), .int a] σ none (sp_Mob_takeAdvert σ j a) := by
  refine rx_of (lo := [(0, .ref (rg_A (rx_fin D b ca) (46 + j))), (1, .int a)]) (by decide) (rx_fin_D D b ca) rfl (Nat.le_of_ble_eq_true rfl) rfl ?_
  intro p e s mm below meth c C
  refine rx_aload_n C.1 (pc := 0) d_Mob_takeAdvert_0 rfl ?_
  refine rx_iload_n C.1 (pc := 1) d_Mob_takeAdvert_1 rfl ?_
  refine p_Mob_29 D b ca C (by first | assumption | (constructor <;> omega) | omega | decide) (pc := 2) d_Mob_takeAdvert_2 ?_
  refine rx_aload_n C.1 (pc := 5) d_Mob_takeAdvert_5 rfl ?_
  refine rx_aload_n C.1 (pc := 6) d_Mob_takeAdvert_6 rfl ?_
  refine g_Mob_18 D b ca C (by first | assumption | (constructor <;> omega) | omega | decide) (pc := 7) d_Mob_takeAdvert_7 ?_
  refine g_Mob_55 D b ca C (pc := 10) d_Mob_takeAdvert_10 ?_
  refine rx_bipush C.1 (v := 12) (pc := 13) d_Mob_takeAdvert_13 (by decide) ?_
  refine rx_iadd C.1 (pc := 15) d_Mob_takeAdvert_15 ?_
  refine p_Mob_60 D b ca C (by first | assumption | (constructor <;> omega) | omega | decide) (pc := 16) d_Mob_takeAdvert_16 ?_
  refine rx_aload_n C.1 (pc := 19) d_Mob_takeAdvert_19 rfl ?_
  refine g_Mob_63 D b ca C (by first | assumption | (constructor <;> omega) | omega | decide) (pc := 20) d_Mob_takeAdvert_20 ?_
  refine rx_if_eq C.1 (pc := 23) d_Mob_takeAdvert_23 (tgt := 38) rfl (fun h1 => ?_) (fun h1 => ?_)
  ·
    refine rx_iconst C.1 (v := 0) (pc := 38) d_Mob_takeAdvert_38 (by decide) ?_
    refine rx_istore_n C.1 (pc := 39) d_Mob_takeAdvert_39 (by decide) ?_
    refine rx_aload_n C.1 (pc := 40) d_Mob_takeAdvert_40 rfl ?_
    refine g_Mob_22 D b ca C (by first | assumption | (constructor <;> omega) | omega | decide) (pc := 41) d_Mob_takeAdvert_41 ?_
    refine rx_iload_n C.1 (pc := 44) d_Mob_takeAdvert_44 rfl ?_
    refine rx_icmp_ne C.1 (pc := 45) d_Mob_takeAdvert_45 (tgt := 55) rfl (fun h2 => ?_) (fun h2 => ?_)
    ·
      refine rx_iload_n C.1 (pc := 55) d_Mob_takeAdvert_55 rfl ?_
      refine rx_if_ne C.1 (pc := 56) d_Mob_takeAdvert_56 (tgt := 64) rfl (fun h9 => absurd h9 (by decide)) (fun _ => ?_)
      refine rx_aload_n C.1 (pc := 59) d_Mob_takeAdvert_59 rfl ?_
      refine rx_iload_n C.1 (pc := 60) d_Mob_takeAdvert_60 rfl ?_
      refine q_Mob_73 D b ca C (by first | assumption | (constructor <;> omega) | omega | decide) (pc := 61) d_Mob_takeAdvert_61 (c_Mob_registerWith l D b ca (by first | assumption | (constructor <;> omega) | omega | decide) ) ⟨Nat.le_of_ble_eq_true rfl, Nat.le_of_ble_eq_true rfl⟩ ⟨Nat.zero_le _, Nat.zero_le _⟩ (Nat.le_of_ble_eq_true rfl) ?_
      exact rx_vret C (pc := 64) d_Mob_takeAdvert_64 (by unfold sp_Mob_takeAdvert; first | (simp only [if_pos h1, if_neg h2]; done) | (simp only [if_pos h1, if_neg h2]; rfl))
    ·
      refine rx_aload_n C.1 (pc := 48) d_Mob_takeAdvert_48 rfl ?_
      refine q_Mob_69 D b ca C (by first | assumption | (constructor <;> omega) | omega | decide) (pc := 49) d_Mob_takeAdvert_49 (c_Mob_endsSoon l D b ca (by first | assumption | (constructor <;> omega) | omega | decide) ) ⟨Nat.le_of_ble_eq_true rfl, Nat.le_of_ble_eq_true rfl⟩ ⟨Nat.zero_le _, Nat.zero_le _⟩ (Nat.le_of_ble_eq_true rfl) ?_
      refine rx_if_eq C.1 (pc := 52) d_Mob_takeAdvert_52 (tgt := 64) rfl (fun h3 => ?_) (fun h3 => ?_)
      ·
        exact rx_vret C (pc := 64) d_Mob_takeAdvert_64 (by unfold sp_Mob_takeAdvert; first | (simp only [if_pos h1, if_pos h2, if_pos h3]; done) | (simp only [if_pos h1, if_pos h2, if_pos h3]; rfl))
      ·
        refine rx_iload_n C.1 (pc := 55) d_Mob_takeAdvert_55 rfl ?_
        refine rx_if_ne C.1 (pc := 56) d_Mob_takeAdvert_56 (tgt := 64) rfl (fun h9 => absurd h9 (by decide)) (fun _ => ?_)
        refine rx_aload_n C.1 (pc := 59) d_Mob_takeAdvert_59 rfl ?_
        refine rx_iload_n C.1 (pc := 60) d_Mob_takeAdvert_60 rfl ?_
        refine q_Mob_73 D b ca C (by first | assumption | (constructor <;> omega) | omega | decide) (pc := 61) d_Mob_takeAdvert_61 (c_Mob_registerWith l D b ca (by first | assumption | (constructor <;> omega) | omega | decide) ) ⟨Nat.le_of_ble_eq_true rfl, Nat.le_of_ble_eq_true rfl⟩ ⟨Nat.zero_le _, Nat.zero_le _⟩ (Nat.le_of_ble_eq_true rfl) ?_
        exact rx_vret C (pc := 64) d_Mob_takeAdvert_64 (by unfold sp_Mob_takeAdvert; first | (simp only [if_pos h1, if_pos h2, if_neg h3]; done) | (simp only [if_pos h1, if_pos h2, if_neg h3]; rfl))
  ·
    refine rx_aload_n C.1 (pc := 26) d_Mob_takeAdvert_26 rfl ?_
    refine g_Mob_66 D b ca C (by first | assumption | (constructor <;> omega) | omega | decide) (pc := 27) d_Mob_takeAdvert_27 ?_
    refine rx_iload_n C.1 (pc := 30) d_Mob_takeAdvert_30 rfl ?_
    refine rx_icmp_ne C.1 (pc := 31) d_Mob_takeAdvert_31 (tgt := 38) rfl (fun h4 => ?_) (fun h4 => ?_)
    ·
      refine rx_iconst C.1 (v := 0) (pc := 38) d_Mob_takeAdvert_38 (by decide) ?_
      refine rx_istore_n C.1 (pc := 39) d_Mob_takeAdvert_39 (by decide) ?_
      refine rx_aload_n C.1 (pc := 40) d_Mob_takeAdvert_40 rfl ?_
      refine g_Mob_22 D b ca C (by first | assumption | (constructor <;> omega) | omega | decide) (pc := 41) d_Mob_takeAdvert_41 ?_
      refine rx_iload_n C.1 (pc := 44) d_Mob_takeAdvert_44 rfl ?_
      refine rx_icmp_ne C.1 (pc := 45) d_Mob_takeAdvert_45 (tgt := 55) rfl (fun h5 => ?_) (fun h5 => ?_)
      ·
        refine rx_iload_n C.1 (pc := 55) d_Mob_takeAdvert_55 rfl ?_
        refine rx_if_ne C.1 (pc := 56) d_Mob_takeAdvert_56 (tgt := 64) rfl (fun h9 => absurd h9 (by decide)) (fun _ => ?_)
        refine rx_aload_n C.1 (pc := 59) d_Mob_takeAdvert_59 rfl ?_
        refine rx_iload_n C.1 (pc := 60) d_Mob_takeAdvert_60 rfl ?_
        refine q_Mob_73 D b ca C (by first | assumption | (constructor <;> omega) | omega | decide) (pc := 61) d_Mob_takeAdvert_61 (c_Mob_registerWith l D b ca (by first | assumption | (constructor <;> omega) | omega | decide) ) ⟨Nat.le_of_ble_eq_true rfl, Nat.le_of_ble_eq_true rfl⟩ ⟨Nat.zero_le _, Nat.zero_le _⟩ (Nat.le_of_ble_eq_true rfl) ?_
        exact rx_vret C (pc := 64) d_Mob_takeAdvert_64 (by unfold sp_Mob_takeAdvert; first | (simp only [if_neg h1, if_neg h4, if_neg h5]; done) | (simp only [if_neg h1, if_neg h4, if_neg h5]; rfl))
      ·
        refine rx_aload_n C.1 (pc := 48) d_Mob_takeAdvert_48 rfl ?_
        refine q_Mob_69 D b ca C (by first | assumption | (constructor <;> omega) | omega | decide) (pc := 49) d_Mob_takeAdvert_49 (c_Mob_endsSoon l D b ca (by first | assumption | (constructor <;> omega) | omega | decide) ) ⟨Nat.le_of_ble_eq_true rfl, Nat.le_of_ble_eq_true rfl⟩ ⟨Nat.zero_le _, Nat.zero_le _⟩ (Nat.le_of_ble_eq_true rfl) ?_
        refine rx_if_eq C.1 (pc := 52) d_Mob_takeAdvert_52 (tgt := 64) rfl (fun h6 => ?_) (fun h6 => ?_)
        ·
          exact rx_vret C (pc := 64) d_Mob_takeAdvert_64 (by unfold sp_Mob_takeAdvert; first | (simp only [if_neg h1, if_neg h4, if_pos h5, if_pos h6]; done) | (simp only [if_neg h1, if_neg h4, if_pos h5, if_pos h6]; rfl))
        ·
          refine rx_iload_n C.1 (pc := 55) d_Mob_takeAdvert_55 rfl ?_
          refine rx_if_ne C.1 (pc := 56) d_Mob_takeAdvert_56 (tgt := 64) rfl (fun h9 => absurd h9 (by decide)) (fun _ => ?_)
          refine rx_aload_n C.1 (pc := 59) d_Mob_takeAdvert_59 rfl ?_
          refine rx_iload_n C.1 (pc := 60) d_Mob_takeAdvert_60 rfl ?_
          refine q_Mob_73 D b ca C (by first | assumption | (constructor <;> omega) | omega | decide) (pc := 61) d_Mob_takeAdvert_61 (c_Mob_registerWith l D b ca (by first | assumption | (constructor <;> omega) | omega | decide) ) ⟨Nat.le_of_ble_eq_true rfl, Nat.le_of_ble_eq_true rfl⟩ ⟨Nat.zero_le _, Nat.zero_le _⟩ (Nat.le_of_ble_eq_true rfl) ?_
          exact rx_vret C (pc := 64) d_Mob_takeAdvert_64 (by unfold sp_Mob_takeAdvert; first | (simp only [if_neg h1, if_neg h4, if_pos h5, if_neg h6]; done) | (simp only [if_neg h1, if_neg h4, if_pos h5, if_neg h6]; rfl))
    ·
      refine rx_iconst C.1 (v := 1) (pc := 34) d_Mob_takeAdvert_34 (by decide) ?_
      refine rx_goto C.1 (pc := 35) d_Mob_takeAdvert_35 (tgt := 39) rfl ?_
      refine rx_istore_n C.1 (pc := 39) d_Mob_takeAdvert_39 (by decide) ?_
      refine rx_aload_n C.1 (pc := 40) d_Mob_takeAdvert_40 rfl ?_
      refine g_Mob_22 D b ca C (by first | assumption | (constructor <;> omega) | omega | decide) (pc := 41) d_Mob_takeAdvert_41 ?_
      refine rx_iload_n C.1 (pc := 44) d_Mob_takeAdvert_44 rfl ?_
      refine rx_icmp_ne C.1 (pc := 45) d_Mob_takeAdvert_45 (tgt := 55) rfl (fun h7 => ?_) (fun h7 => ?_)
      ·
        refine rx_iload_n C.1 (pc := 55) d_Mob_takeAdvert_55 rfl ?_
        refine rx_if_ne C.1 (pc := 56) d_Mob_takeAdvert_56 (tgt := 64) rfl (fun _ => ?_) (fun h9 => absurd h9 (by decide))
        exact rx_vret C (pc := 64) d_Mob_takeAdvert_64 (by unfold sp_Mob_takeAdvert; first | (simp only [if_neg h1, if_pos h4, if_neg h7]; done) | (simp only [if_neg h1, if_pos h4, if_neg h7]; rfl))
      ·
        refine rx_aload_n C.1 (pc := 48) d_Mob_takeAdvert_48 rfl ?_
        refine q_Mob_69 D b ca C (by first | assumption | (constructor <;> omega) | omega | decide) (pc := 49) d_Mob_takeAdvert_49 (c_Mob_endsSoon l D b ca (by first | assumption | (constructor <;> omega) | omega | decide) ) ⟨Nat.le_of_ble_eq_true rfl, Nat.le_of_ble_eq_true rfl⟩ ⟨Nat.zero_le _, Nat.zero_le _⟩ (Nat.le_of_ble_eq_true rfl) ?_
        refine rx_if_eq C.1 (pc := 52) d_Mob_takeAdvert_52 (tgt := 64) rfl (fun h8 => ?_) (fun h8 => ?_)
        ·
          exact rx_vret C (pc := 64) d_Mob_takeAdvert_64 (by unfold sp_Mob_takeAdvert; first | (simp only [if_neg h1, if_pos h4, if_pos h7, if_pos h8]; done) | (simp only [if_neg h1, if_pos h4, if_pos h7, if_pos h8]; rfl))
        ·
          refine rx_iload_n C.1 (pc := 55) d_Mob_takeAdvert_55 rfl ?_
          refine rx_if_ne C.1 (pc := 56) d_Mob_takeAdvert_56 (tgt := 64) rfl (fun _ => ?_) (fun h9 => absurd h9 (by decide))
          exact rx_vret C (pc := 64) d_Mob_takeAdvert_64 (by unfold sp_Mob_takeAdvert; first | (simp only [if_neg h1, if_pos h4, if_pos h7, if_neg h8]; done) | (simp only [if_neg h1, if_pos h4, if_pos h7, if_neg h8]; rfl))

def sp_Mob_takeReply (σ : rMem) (j : Nat) (r : Nat) : rMem := if (σ (46 + j) 10) = 0 then σ else (if (σ (46 + j) 10) = (σ r 4) then (if (σ r 6) = 66 then (let m5 := rx_wr σ (46 + j) 10 0; m5) else (if (σ r 8) = (rv_Msg_replySeal σ r (σ (46 + j) 3)) then (let m1 := rx_wr σ (46 + j) 10 0; if (m1 r 6) = 0 then (let m2 := rx_wr m1 (46 + j) 6 (m1 r 5); if (m2 (46 + j) 6) = 0 then (let m4 := rx_wr m2 (46 + j) 7 2147483647; m4) else (let m3 := rx_wr m2 (46 + j) 7 ((m2 (46 + j) 12) + (m2 r 7)); m3)) else m1) else σ)) else σ)
set_option maxHeartbeats 4000000 in
set_option maxRecDepth 100000 in
theorem c_Mob_takeReply (l : Launch) (D : va_G) (b : Nat) (ca : Nat → ClassId) {σ : rMem} {j : Nat} (hj : j < 2) {r : Nat} (hr : 3 ≤ r ∧ r < 45) : rx_C l (rx_fin D b ca) y_Mob_takeReply b_Mob_takeReply 2 none (rx_rm 2) [.ref (rg_A (rx_fin D b ca) (46 + j)), .ref (rg_A (rx_fin D b ca) r)] σ none (sp_Mob_takeReply σ j r) := by
  refine rx_of (lo := [(0, .ref (rg_A (rx_fin D b ca) (46 + j))), (1, .ref (rg_A (rx_fin D b ca) r))]) (by decide) (rx_fin_D D b ca) rfl (Nat.le_of_ble_eq_true rfl) rfl ?_
  intro p e s mm below meth c C
  refine rx_aload_n C.1 (pc := 0) d_Mob_takeReply_0 rfl ?_
  refine g_Mob_63 D b ca C (by first | assumption | (constructor <;> omega) | omega | decide) (pc := 1) d_Mob_takeReply_1 ?_
  refine rx_if_eq C.1 (pc := 4) d_Mob_takeReply_4 (tgt := 18) rfl (fun h1 => ?_) (fun h1 => ?_)
  ·
    exact rx_vret C (pc := 18) d_Mob_takeReply_18 (by unfold sp_Mob_takeReply; first | (simp only [if_pos h1]; done) | (simp only [if_pos h1]; rfl))
  ·
    refine rx_aload_n C.1 (pc := 7) d_Mob_takeReply_7 rfl ?_
    refine g_Mob_63 D b ca C (by first | assumption | (constructor <;> omega) | omega | decide) (pc := 8) d_Mob_takeReply_8 ?_
    refine rx_aload_n C.1 (pc := 11) d_Mob_takeReply_11 rfl ?_
    refine g_Mob_41 D b ca C (by first | assumption | (constructor <;> omega) | omega | decide) (pc := 12) d_Mob_takeReply_12 ?_
    refine rx_icmp_eq C.1 (pc := 15) d_Mob_takeReply_15 (tgt := 19) rfl (fun h2 => ?_) (fun h2 => ?_)
    ·
      refine rx_aload_n C.1 (pc := 19) d_Mob_takeReply_19 rfl ?_
      refine g_Mob_102 D b ca C (by first | assumption | (constructor <;> omega) | omega | decide) (pc := 20) d_Mob_takeReply_20 ?_
      refine rx_bipush C.1 (v := 66) (pc := 23) d_Mob_takeReply_23 (by decide) ?_
      refine rx_icmp_ne C.1 (pc := 25) d_Mob_takeReply_25 (tgt := 36) rfl (fun h3 => ?_) (fun h3 => ?_)
      ·
        refine rx_aload_n C.1 (pc := 36) d_Mob_takeReply_36 rfl ?_
        refine g_Mob_96 D b ca C (by first | assumption | (constructor <;> omega) | omega | decide) (pc := 37) d_Mob_takeReply_37 ?_
        refine rx_aload_n C.1 (pc := 40) d_Mob_takeReply_40 rfl ?_
        refine rx_aload_n C.1 (pc := 41) d_Mob_takeReply_41 rfl ?_
        refine g_Mob_89 D b ca C (by first | assumption | (constructor <;> omega) | omega | decide) (pc := 42) d_Mob_takeReply_42 ?_
        refine q_Mob_105 D b ca C (by first | assumption | (constructor <;> omega) | omega | decide) (pc := 45) d_Mob_takeReply_45 (c_Msg_replySeal l D b ca (by first | assumption | (constructor <;> omega) | omega | decide) ) ⟨Nat.le_of_ble_eq_true rfl, Nat.le_of_ble_eq_true rfl⟩ ⟨Nat.zero_le _, Nat.zero_le _⟩ (Nat.le_of_ble_eq_true rfl) ?_
        refine rx_icmp_ne C.1 (pc := 48) d_Mob_takeReply_48 (tgt := 96) rfl (fun h4 => ?_) (fun h4 => ?_)
        ·
          exact rx_vret C (pc := 96) d_Mob_takeReply_96 (by unfold sp_Mob_takeReply; first | (simp only [if_neg h1, if_pos h2, if_neg h3, if_neg h4]; done) | (simp only [if_neg h1, if_pos h2, if_neg h3, if_neg h4]; rfl))
        ·
          refine rx_aload_n C.1 (pc := 51) d_Mob_takeReply_51 rfl ?_
          refine rx_iconst C.1 (v := 0) (pc := 52) d_Mob_takeReply_52 (by decide) ?_
          refine p_Mob_63 D b ca C (by first | assumption | (constructor <;> omega) | omega | decide) (pc := 53) d_Mob_takeReply_53 ?_
          refine rx_aload_n C.1 (pc := 56) d_Mob_takeReply_56 rfl ?_
          refine g_Mob_102 D b ca C (by first | assumption | (constructor <;> omega) | omega | decide) (pc := 57) d_Mob_takeReply_57 ?_
          refine rx_if_ne C.1 (pc := 60) d_Mob_takeReply_60 (tgt := 96) rfl (fun h5 => ?_) (fun h5 => ?_)
          ·
            exact rx_vret C (pc := 96) d_Mob_takeReply_96 (by unfold sp_Mob_takeReply; first | (simp only [if_neg h1, if_pos h2, if_neg h3, if_pos h4, if_neg h5]; done) | (simp only [if_neg h1, if_pos h2, if_neg h3, if_pos h4, if_neg h5]; rfl))
          ·
            refine rx_aload_n C.1 (pc := 63) d_Mob_takeReply_63 rfl ?_
            refine rx_aload_n C.1 (pc := 64) d_Mob_takeReply_64 rfl ?_
            refine g_Mob_83 D b ca C (by first | assumption | (constructor <;> omega) | omega | decide) (pc := 65) d_Mob_takeReply_65 ?_
            refine p_Mob_22 D b ca C (by first | assumption | (constructor <;> omega) | omega | decide) (pc := 68) d_Mob_takeReply_68 ?_
            refine rx_aload_n C.1 (pc := 71) d_Mob_takeReply_71 rfl ?_
            refine rx_aload_n C.1 (pc := 72) d_Mob_takeReply_72 rfl ?_
            refine g_Mob_22 D b ca C (by first | assumption | (constructor <;> omega) | omega | decide) (pc := 73) d_Mob_takeReply_73 ?_
            refine rx_if_ne C.1 (pc := 76) d_Mob_takeReply_76 (tgt := 84) rfl (fun h6 => ?_) (fun h6 => ?_)
            ·
              refine rx_aload_n C.1 (pc := 84) d_Mob_takeReply_84 rfl ?_
              refine g_Mob_99 D b ca C (by first | assumption | (constructor <;> omega) | omega | decide) (pc := 85) d_Mob_takeReply_85 ?_
              refine rx_aload_n C.1 (pc := 88) d_Mob_takeReply_88 rfl ?_
              refine g_Mob_86 D b ca C (by first | assumption | (constructor <;> omega) | omega | decide) (pc := 89) d_Mob_takeReply_89 ?_
              refine rx_iadd C.1 (pc := 92) d_Mob_takeReply_92 ?_
              refine p_Mob_26 D b ca C (by first | assumption | (constructor <;> omega) | omega | decide) (pc := 93) d_Mob_takeReply_93 ?_
              exact rx_vret C (pc := 96) d_Mob_takeReply_96 (by unfold sp_Mob_takeReply; first | (simp only [if_neg h1, if_pos h2, if_neg h3, if_pos h4, if_pos h5, if_neg h6]; done) | (simp only [if_neg h1, if_pos h2, if_neg h3, if_pos h4, if_pos h5, if_neg h6]; rfl))
            ·
              refine rx_ldc C.1 (v := 2147483647) k_Mob_25 (pc := 79) d_Mob_takeReply_79 ?_
              refine rx_goto C.1 (pc := 81) d_Mob_takeReply_81 (tgt := 93) rfl ?_
              refine p_Mob_26 D b ca C (by first | assumption | (constructor <;> omega) | omega | decide) (pc := 93) d_Mob_takeReply_93 ?_
              exact rx_vret C (pc := 96) d_Mob_takeReply_96 (by unfold sp_Mob_takeReply; first | (simp only [if_neg h1, if_pos h2, if_neg h3, if_pos h4, if_pos h5, if_pos h6]; done) | (simp only [if_neg h1, if_pos h2, if_neg h3, if_pos h4, if_pos h5, if_pos h6]; rfl))
      ·
        refine rx_aload_n C.1 (pc := 28) d_Mob_takeReply_28 rfl ?_
        refine rx_iconst C.1 (v := 0) (pc := 29) d_Mob_takeReply_29 (by decide) ?_
        refine p_Mob_63 D b ca C (by first | assumption | (constructor <;> omega) | omega | decide) (pc := 30) d_Mob_takeReply_30 ?_
        refine rx_goto C.1 (pc := 33) d_Mob_takeReply_33 (tgt := 96) rfl ?_
        exact rx_vret C (pc := 96) d_Mob_takeReply_96 (by unfold sp_Mob_takeReply; first | (simp only [if_neg h1, if_pos h2, if_pos h3]; done) | (simp only [if_neg h1, if_pos h2, if_pos h3]; rfl))
    ·
      exact rx_vret C (pc := 18) d_Mob_takeReply_18 (by unfold sp_Mob_takeReply; first | (simp only [if_neg h1, if_neg h2]; done) | (simp only [if_neg h1, if_neg h2]; rfl))

def sp_Mob_takeData (σ : rMem) (j : Nat) (nu : Int32) : rMem := if nu = ((σ (46 + j) 13) + 1) then (let m2 := rx_wr σ (46 + j) 13 ((σ (46 + j) 13) + 1); let m3 := (sp_Wire_sendTo m2 4 6 (m2 (46 + j) 0) (m2 (46 + j) 13)).1; m3) else (let m1 := (sp_Wire_sendTo σ 4 6 (σ (46 + j) 0) (σ (46 + j) 13)).1; m1)
set_option maxHeartbeats 4000000 in
set_option maxRecDepth 100000 in
theorem c_Mob_takeData (l : Launch) (D : va_G) (b : Nat) (ca : Nat → ClassId) {σ : rMem} {j : Nat} (hj : j < 2) {nu : Int32} : rx_C l (rx_fin D b ca) y_Mob_takeData b_Mob_takeData 2 none (rx_rm 3) [.ref (rg_A (rx_fin D b ca) (46 + j)), .int nu] σ none (sp_Mob_takeData σ j nu) := by
  refine rx_of (lo := [(0, .ref (rg_A (rx_fin D b ca) (46 + j))), (1, .int nu)]) (by decide) (rx_fin_D D b ca) rfl (Nat.le_of_ble_eq_true rfl) rfl ?_
  intro p e s mm below meth c C
  refine rx_iload_n C.1 (pc := 0) d_Mob_takeData_0 rfl ?_
  refine rx_aload_n C.1 (pc := 1) d_Mob_takeData_1 rfl ?_
  refine g_Mob_108 D b ca C (by first | assumption | (constructor <;> omega) | omega | decide) (pc := 2) d_Mob_takeData_2 ?_
  refine rx_iconst C.1 (v := 1) (pc := 5) d_Mob_takeData_5 (by decide) ?_
  refine rx_iadd C.1 (pc := 6) d_Mob_takeData_6 ?_
  refine rx_icmp_ne C.1 (pc := 7) d_Mob_takeData_7 (tgt := 20) rfl (fun h1 => ?_) (fun h1 => ?_)
  ·
    refine rx_aload_n C.1 (pc := 20) d_Mob_takeData_20 rfl ?_
    refine g_Mob_18 D b ca C (by first | assumption | (constructor <;> omega) | omega | decide) (pc := 21) d_Mob_takeData_21 ?_
    refine rx_iconst C.1 (v := 4) (pc := 24) d_Mob_takeData_24 (by decide) ?_
    refine rx_bipush C.1 (v := 6) (pc := 25) d_Mob_takeData_25 (by decide) ?_
    refine rx_aload_n C.1 (pc := 27) d_Mob_takeData_27 rfl ?_
    refine g_Mob_9 D b ca C (by first | assumption | (constructor <;> omega) | omega | decide) (pc := 28) d_Mob_takeData_28 ?_
    refine rx_aload_n C.1 (pc := 31) d_Mob_takeData_31 rfl ?_
    refine g_Mob_108 D b ca C (by first | assumption | (constructor <;> omega) | omega | decide) (pc := 32) d_Mob_takeData_32 ?_
    refine q_Mob_79 D b ca C (pc := 35) d_Mob_takeData_35 (c_Wire_sendTo l D b ca ) (fun hI => rq_Wire_sendTo hI) ⟨Nat.le_of_ble_eq_true rfl, Nat.le_of_ble_eq_true rfl⟩ ⟨Nat.zero_le _, Nat.zero_le _⟩ (Nat.le_of_ble_eq_true rfl) (fun hq1 => ?_)
    refine rx_pop C.1 (pc := 38) d_Mob_takeData_38 rfl ?_
    exact rx_vret C (pc := 39) d_Mob_takeData_39 (by unfold sp_Mob_takeData; first | (simp only [if_neg h1]; done) | (simp only [if_neg h1]; rfl))
  ·
    refine rx_aload_n C.1 (pc := 10) d_Mob_takeData_10 rfl ?_
    refine rx_dup C.1 (pc := 11) d_Mob_takeData_11 rfl ?_
    refine g_Mob_108 D b ca C (by first | assumption | (constructor <;> omega) | omega | decide) (pc := 12) d_Mob_takeData_12 ?_
    refine rx_iconst C.1 (v := 1) (pc := 15) d_Mob_takeData_15 (by decide) ?_
    refine rx_iadd C.1 (pc := 16) d_Mob_takeData_16 ?_
    refine p_Mob_108 D b ca C (by first | assumption | (constructor <;> omega) | omega | decide) (pc := 17) d_Mob_takeData_17 ?_
    refine rx_aload_n C.1 (pc := 20) d_Mob_takeData_20 rfl ?_
    refine g_Mob_18 D b ca C (by first | assumption | (constructor <;> omega) | omega | decide) (pc := 21) d_Mob_takeData_21 ?_
    refine rx_iconst C.1 (v := 4) (pc := 24) d_Mob_takeData_24 (by decide) ?_
    refine rx_bipush C.1 (v := 6) (pc := 25) d_Mob_takeData_25 (by decide) ?_
    refine rx_aload_n C.1 (pc := 27) d_Mob_takeData_27 rfl ?_
    refine g_Mob_9 D b ca C (by first | assumption | (constructor <;> omega) | omega | decide) (pc := 28) d_Mob_takeData_28 ?_
    refine rx_aload_n C.1 (pc := 31) d_Mob_takeData_31 rfl ?_
    refine g_Mob_108 D b ca C (by first | assumption | (constructor <;> omega) | omega | decide) (pc := 32) d_Mob_takeData_32 ?_
    refine q_Mob_79 D b ca C (pc := 35) d_Mob_takeData_35 (c_Wire_sendTo l D b ca ) (fun hI => rq_Wire_sendTo hI) ⟨Nat.le_of_ble_eq_true rfl, Nat.le_of_ble_eq_true rfl⟩ ⟨Nat.zero_le _, Nat.zero_le _⟩ (Nat.le_of_ble_eq_true rfl) (fun hq2 => ?_)
    refine rx_pop C.1 (pc := 38) d_Mob_takeData_38 rfl ?_
    exact rx_vret C (pc := 39) d_Mob_takeData_39 (by unfold sp_Mob_takeData; first | (simp only [if_pos h1]; done) | (simp only [if_pos h1]; rfl))

def sp_Mob_receive (σ : rMem) (j : Nat) (r : Nat) : rMem := if (σ r 2) = (σ (46 + j) 4) then (if (σ r 0) = 1 then (let m3 := sp_Mob_takeAdvert σ j (σ r 4); m3) else (if (σ r 0) = 3 then (let m2 := sp_Mob_takeReply σ j r; m2) else (if (σ r 0) = 4 then (let m1 := sp_Mob_takeData σ j (σ r 4); m1) else σ))) else σ
set_option maxHeartbeats 4000000 in
set_option maxRecDepth 100000 in
theorem c_Mob_receive (l : Launch) (D : va_G) (b : Nat) (ca : Nat → ClassId) {σ : rMem} {j : Nat} (hj : j < 2) {r : Nat} (hr : 3 ≤ r ∧ r < 45) : rx_C l (rx_fin D b ca) y_Mob_receive b_Mob_receive 2 none (rx_rm 5) [.ref (rg_A (rx_fin D b ca) (46 + j)), .ref (rg_A (rx_fin D b ca) r)] σ none (sp_Mob_receive σ j r) := by
  refine rx_of (lo := [(0, .ref (rg_A (rx_fin D b ca) (46 + j))), (1, .ref (rg_A (rx_fin D b ca) r))]) (by decide) (rx_fin_D D b ca) rfl (Nat.le_of_ble_eq_true rfl) rfl ?_
  intro p e s mm below meth c C
  refine rx_aload_n C.1 (pc := 0) d_Mob_receive_0 rfl ?_
  refine g_Mob_32 D b ca C (by first | assumption | (constructor <;> omega) | omega | decide) (pc := 1) d_Mob_receive_1 ?_
  refine rx_aload_n C.1 (pc := 4) d_Mob_receive_4 rfl ?_
  refine g_Mob_37 D b ca C (by first | assumption | (constructor <;> omega) | omega | decide) (pc := 5) d_Mob_receive_5 ?_
  refine rx_icmp_eq C.1 (pc := 8) d_Mob_receive_8 (tgt := 12) rfl (fun h1 => ?_) (fun h1 => ?_)
  ·
    refine rx_aload_n C.1 (pc := 12) d_Mob_receive_12 rfl ?_
    refine g_Mob_38 D b ca C (by first | assumption | (constructor <;> omega) | omega | decide) (pc := 13) d_Mob_receive_13 ?_
    refine rx_iconst C.1 (v := 1) (pc := 16) d_Mob_receive_16 (by decide) ?_
    refine rx_icmp_ne C.1 (pc := 17) d_Mob_receive_17 (tgt := 31) rfl (fun h2 => ?_) (fun h2 => ?_)
    ·
      refine rx_aload_n C.1 (pc := 31) d_Mob_receive_31 rfl ?_
      refine g_Mob_38 D b ca C (by first | assumption | (constructor <;> omega) | omega | decide) (pc := 32) d_Mob_receive_32 ?_
      refine rx_iconst C.1 (v := 3) (pc := 35) d_Mob_receive_35 (by decide) ?_
      refine rx_icmp_ne C.1 (pc := 36) d_Mob_receive_36 (tgt := 47) rfl (fun h3 => ?_) (fun h3 => ?_)
      ·
        refine rx_aload_n C.1 (pc := 47) d_Mob_receive_47 rfl ?_
        refine g_Mob_38 D b ca C (by first | assumption | (constructor <;> omega) | omega | decide) (pc := 48) d_Mob_receive_48 ?_
        refine rx_iconst C.1 (v := 4) (pc := 51) d_Mob_receive_51 (by decide) ?_
        refine rx_icmp_ne C.1 (pc := 52) d_Mob_receive_52 (tgt := 63) rfl (fun h4 => ?_) (fun h4 => ?_)
        ·
          exact rx_vret C (pc := 63) d_Mob_receive_63 (by unfold sp_Mob_receive; first | (simp only [if_pos h1, if_neg h2, if_neg h3, if_neg h4]; done) | (simp only [if_pos h1, if_neg h2, if_neg h3, if_neg h4]; rfl))
        ·
          refine rx_aload_n C.1 (pc := 55) d_Mob_receive_55 rfl ?_
          refine rx_aload_n C.1 (pc := 56) d_Mob_receive_56 rfl ?_
          refine g_Mob_41 D b ca C (by first | assumption | (constructor <;> omega) | omega | decide) (pc := 57) d_Mob_receive_57 ?_
          refine q_Mob_52 D b ca C (by first | assumption | (constructor <;> omega) | omega | decide) (pc := 60) d_Mob_receive_60 (c_Mob_takeData l D b ca (by first | assumption | (constructor <;> omega) | omega | decide) ) ⟨Nat.le_of_ble_eq_true rfl, Nat.le_of_ble_eq_true rfl⟩ ⟨Nat.zero_le _, Nat.zero_le _⟩ (Nat.le_of_ble_eq_true rfl) ?_
          exact rx_vret C (pc := 63) d_Mob_receive_63 (by unfold sp_Mob_receive; first | (simp only [if_pos h1, if_neg h2, if_neg h3, if_pos h4]; done) | (simp only [if_pos h1, if_neg h2, if_neg h3, if_pos h4]; rfl))
      ·
        refine rx_aload_n C.1 (pc := 39) d_Mob_receive_39 rfl ?_
        refine rx_aload_n C.1 (pc := 40) d_Mob_receive_40 rfl ?_
        refine q_Mob_48 D b ca C (by first | assumption | (constructor <;> omega) | omega | decide) (pc := 41) d_Mob_receive_41 (c_Mob_takeReply l D b ca (by first | assumption | (constructor <;> omega) | omega | decide) (by first | assumption | exact rx_iM0 | exact rx_iM1 | (constructor <;> omega))) ⟨Nat.le_of_ble_eq_true rfl, Nat.le_of_ble_eq_true rfl⟩ ⟨Nat.zero_le _, Nat.zero_le _⟩ (Nat.le_of_ble_eq_true rfl) ?_
        refine rx_goto C.1 (pc := 44) d_Mob_receive_44 (tgt := 63) rfl ?_
        exact rx_vret C (pc := 63) d_Mob_receive_63 (by unfold sp_Mob_receive; first | (simp only [if_pos h1, if_neg h2, if_pos h3]; done) | (simp only [if_pos h1, if_neg h2, if_pos h3]; rfl))
    ·
      refine rx_aload_n C.1 (pc := 20) d_Mob_receive_20 rfl ?_
      refine rx_aload_n C.1 (pc := 21) d_Mob_receive_21 rfl ?_
      refine g_Mob_41 D b ca C (by first | assumption | (constructor <;> omega) | omega | decide) (pc := 22) d_Mob_receive_22 ?_
      refine q_Mob_44 D b ca C (by first | assumption | (constructor <;> omega) | omega | decide) (pc := 25) d_Mob_receive_25 (c_Mob_takeAdvert l D b ca (by first | assumption | (constructor <;> omega) | omega | decide) ) ⟨Nat.le_of_ble_eq_true rfl, Nat.le_of_ble_eq_true rfl⟩ ⟨Nat.zero_le _, Nat.zero_le _⟩ (Nat.le_of_ble_eq_true rfl) ?_
      refine rx_goto C.1 (pc := 28) d_Mob_receive_28 (tgt := 63) rfl ?_
      exact rx_vret C (pc := 63) d_Mob_receive_63 (by unfold sp_Mob_receive; first | (simp only [if_pos h1, if_pos h2]; done) | (simp only [if_pos h1, if_pos h2]; rfl))
  ·
    exact rx_vret C (pc := 11) d_Mob_receive_11 (by unfold sp_Mob_receive; first | (simp only [if_neg h1]; done) | (simp only [if_neg h1]; rfl))

def sp_Mob_notice (σ : rMem) (j : Nat) : rMem := if (σ 1 2) < (σ (46 + j) 9) then (if (σ 1 2) < (σ (46 + j) 7) then (if (σ (46 + j) 10) = 0 then σ else (if ((σ 1 2) - (σ (46 + j) 12)) < 3 then σ else (if (σ (46 + j) 11) = (σ (46 + j) 8) then (let m2 := sp_Mob_registerWith σ j (σ (46 + j) 11); m2) else (let m1 := rx_wr σ (46 + j) 10 0; m1)))) else (let m3 := rx_wr σ (46 + j) 6 (-1); if (m3 (46 + j) 10) = 0 then m3 else (if ((m3 1 2) - (m3 (46 + j) 12)) < 3 then m3 else (if (m3 (46 + j) 11) = (m3 (46 + j) 8) then (let m5 := sp_Mob_registerWith m3 j (m3 (46 + j) 11); m5) else (let m4 := rx_wr m3 (46 + j) 10 0; m4))))) else (let m6 := rx_wr σ (46 + j) 8 (-1); if (m6 1 2) < (m6 (46 + j) 7) then (if (m6 (46 + j) 10) = 0 then m6 else (if ((m6 1 2) - (m6 (46 + j) 12)) < 3 then m6 else (if (m6 (46 + j) 11) = (m6 (46 + j) 8) then (let m8 := sp_Mob_registerWith m6 j (m6 (46 + j) 11); m8) else (let m7 := rx_wr m6 (46 + j) 10 0; m7)))) else (let m9 := rx_wr m6 (46 + j) 6 (-1); if (m9 (46 + j) 10) = 0 then m9 else (if ((m9 1 2) - (m9 (46 + j) 12)) < 3 then m9 else (if (m9 (46 + j) 11) = (m9 (46 + j) 8) then (let m11 := sp_Mob_registerWith m9 j (m9 (46 + j) 11); m11) else (let m10 := rx_wr m9 (46 + j) 10 0; m10)))))
set_option maxHeartbeats 4000000 in
set_option maxRecDepth 100000 in
theorem c_Mob_notice (l : Launch) (D : va_G) (b : Nat) (ca : Nat → ClassId) {σ : rMem} {j : Nat} (hj : j < 2) : rx_C l (rx_fin D b ca) y_Mob_notice b_Mob_notice 1 none (rx_rm 4) [.ref (rg_A (rx_fin D b ca) (46 + j))] σ none (sp_Mob_notice σ j) := by
  refine rx_of (lo := [(0, .ref (rg_A (rx_fin D b ca) (46 + j)))]) (by decide) (rx_fin_D D b ca) rfl (Nat.le_of_ble_eq_true rfl) rfl ?_
  intro p e s mm below meth c C
  refine rx_aload_n C.1 (pc := 0) d_Mob_notice_0 rfl ?_
  refine g_Mob_60 D b ca C (by first | assumption | (constructor <;> omega) | omega | decide) (pc := 1) d_Mob_notice_1 ?_
  refine rx_aload_n C.1 (pc := 4) d_Mob_notice_4 rfl ?_
  refine g_Mob_18 D b ca C (by first | assumption | (constructor <;> omega) | omega | decide) (pc := 5) d_Mob_notice_5 ?_
  refine g_Mob_55 D b ca C (pc := 8) d_Mob_notice_8 ?_
  refine rx_icmp_gt C.1 (pc := 11) d_Mob_notice_11 (tgt := 19) rfl (fun h1 => ?_) (fun h1 => ?_)
  ·
    refine rx_aload_n C.1 (pc := 19) d_Mob_notice_19 rfl ?_
    refine g_Mob_26 D b ca C (by first | assumption | (constructor <;> omega) | omega | decide) (pc := 20) d_Mob_notice_20 ?_
    refine rx_aload_n C.1 (pc := 23) d_Mob_notice_23 rfl ?_
    refine g_Mob_18 D b ca C (by first | assumption | (constructor <;> omega) | omega | decide) (pc := 24) d_Mob_notice_24 ?_
    refine g_Mob_55 D b ca C (pc := 27) d_Mob_notice_27 ?_
    refine rx_icmp_gt C.1 (pc := 30) d_Mob_notice_30 (tgt := 38) rfl (fun h2 => ?_) (fun h2 => ?_)
    ·
      refine rx_aload_n C.1 (pc := 38) d_Mob_notice_38 rfl ?_
      refine g_Mob_63 D b ca C (by first | assumption | (constructor <;> omega) | omega | decide) (pc := 39) d_Mob_notice_39 ?_
      refine rx_if_eq C.1 (pc := 42) d_Mob_notice_42 (tgt := 88) rfl (fun h3 => ?_) (fun h3 => ?_)
      ·
        exact rx_vret C (pc := 88) d_Mob_notice_88 (by unfold sp_Mob_notice; first | (simp only [if_pos h1, if_pos h2, if_pos h3]; done) | (simp only [if_pos h1, if_pos h2, if_pos h3]; rfl))
      ·
        refine rx_aload_n C.1 (pc := 45) d_Mob_notice_45 rfl ?_
        refine g_Mob_18 D b ca C (by first | assumption | (constructor <;> omega) | omega | decide) (pc := 46) d_Mob_notice_46 ?_
        refine g_Mob_55 D b ca C (pc := 49) d_Mob_notice_49 ?_
        refine rx_aload_n C.1 (pc := 52) d_Mob_notice_52 rfl ?_
        refine g_Mob_99 D b ca C (by first | assumption | (constructor <;> omega) | omega | decide) (pc := 53) d_Mob_notice_53 ?_
        refine rx_isub C.1 (pc := 56) d_Mob_notice_56 ?_
        refine rx_iconst C.1 (v := 3) (pc := 57) d_Mob_notice_57 (by decide) ?_
        refine rx_icmp_lt C.1 (pc := 58) d_Mob_notice_58 (tgt := 88) rfl (fun h4 => ?_) (fun h4 => ?_)
        ·
          exact rx_vret C (pc := 88) d_Mob_notice_88 (by unfold sp_Mob_notice; first | (simp only [if_pos h1, if_pos h2, if_neg h3, if_pos h4]; done) | (simp only [if_pos h1, if_pos h2, if_neg h3, if_pos h4]; rfl))
        ·
          refine rx_aload_n C.1 (pc := 61) d_Mob_notice_61 rfl ?_
          refine g_Mob_66 D b ca C (by first | assumption | (constructor <;> omega) | omega | decide) (pc := 62) d_Mob_notice_62 ?_
          refine rx_aload_n C.1 (pc := 65) d_Mob_notice_65 rfl ?_
          refine g_Mob_29 D b ca C (by first | assumption | (constructor <;> omega) | omega | decide) (pc := 66) d_Mob_notice_66 ?_
          refine rx_icmp_ne C.1 (pc := 69) d_Mob_notice_69 (tgt := 83) rfl (fun h5 => ?_) (fun h5 => ?_)
          ·
            refine rx_aload_n C.1 (pc := 83) d_Mob_notice_83 rfl ?_
            refine rx_iconst C.1 (v := 0) (pc := 84) d_Mob_notice_84 (by decide) ?_
            refine p_Mob_63 D b ca C (by first | assumption | (constructor <;> omega) | omega | decide) (pc := 85) d_Mob_notice_85 ?_
            exact rx_vret C (pc := 88) d_Mob_notice_88 (by unfold sp_Mob_notice; first | (simp only [if_pos h1, if_pos h2, if_neg h3, if_neg h4, if_neg h5]; done) | (simp only [if_pos h1, if_pos h2, if_neg h3, if_neg h4, if_neg h5]; rfl))
          ·
            refine rx_aload_n C.1 (pc := 72) d_Mob_notice_72 rfl ?_
            refine rx_aload_n C.1 (pc := 73) d_Mob_notice_73 rfl ?_
            refine g_Mob_66 D b ca C (by first | assumption | (constructor <;> omega) | omega | decide) (pc := 74) d_Mob_notice_74 ?_
            refine q_Mob_73 D b ca C (by first | assumption | (constructor <;> omega) | omega | decide) (pc := 77) d_Mob_notice_77 (c_Mob_registerWith l D b ca (by first | assumption | (constructor <;> omega) | omega | decide) ) ⟨Nat.le_of_ble_eq_true rfl, Nat.le_of_ble_eq_true rfl⟩ ⟨Nat.zero_le _, Nat.zero_le _⟩ (Nat.le_of_ble_eq_true rfl) ?_
            refine rx_goto C.1 (pc := 80) d_Mob_notice_80 (tgt := 88) rfl ?_
            exact rx_vret C (pc := 88) d_Mob_notice_88 (by unfold sp_Mob_notice; first | (simp only [if_pos h1, if_pos h2, if_neg h3, if_neg h4, if_pos h5]; done) | (simp only [if_pos h1, if_pos h2, if_neg h3, if_neg h4, if_pos h5]; rfl))
    ·
      refine rx_aload_n C.1 (pc := 33) d_Mob_notice_33 rfl ?_
      refine rx_iconst C.1 (v := (-1)) (pc := 34) d_Mob_notice_34 (by decide) ?_
      refine p_Mob_22 D b ca C (by first | assumption | (constructor <;> omega) | omega | decide) (pc := 35) d_Mob_notice_35 ?_
      refine rx_aload_n C.1 (pc := 38) d_Mob_notice_38 rfl ?_
      refine g_Mob_63 D b ca C (by first | assumption | (constructor <;> omega) | omega | decide) (pc := 39) d_Mob_notice_39 ?_
      refine rx_if_eq C.1 (pc := 42) d_Mob_notice_42 (tgt := 88) rfl (fun h6 => ?_) (fun h6 => ?_)
      ·
        exact rx_vret C (pc := 88) d_Mob_notice_88 (by unfold sp_Mob_notice; first | (simp only [if_pos h1, if_neg h2, if_pos h6]; done) | (simp only [if_pos h1, if_neg h2, if_pos h6]; rfl))
      ·
        refine rx_aload_n C.1 (pc := 45) d_Mob_notice_45 rfl ?_
        refine g_Mob_18 D b ca C (by first | assumption | (constructor <;> omega) | omega | decide) (pc := 46) d_Mob_notice_46 ?_
        refine g_Mob_55 D b ca C (pc := 49) d_Mob_notice_49 ?_
        refine rx_aload_n C.1 (pc := 52) d_Mob_notice_52 rfl ?_
        refine g_Mob_99 D b ca C (by first | assumption | (constructor <;> omega) | omega | decide) (pc := 53) d_Mob_notice_53 ?_
        refine rx_isub C.1 (pc := 56) d_Mob_notice_56 ?_
        refine rx_iconst C.1 (v := 3) (pc := 57) d_Mob_notice_57 (by decide) ?_
        refine rx_icmp_lt C.1 (pc := 58) d_Mob_notice_58 (tgt := 88) rfl (fun h7 => ?_) (fun h7 => ?_)
        ·
          exact rx_vret C (pc := 88) d_Mob_notice_88 (by unfold sp_Mob_notice; first | (simp only [if_pos h1, if_neg h2, if_neg h6, if_pos h7]; done) | (simp only [if_pos h1, if_neg h2, if_neg h6, if_pos h7]; rfl))
        ·
          refine rx_aload_n C.1 (pc := 61) d_Mob_notice_61 rfl ?_
          refine g_Mob_66 D b ca C (by first | assumption | (constructor <;> omega) | omega | decide) (pc := 62) d_Mob_notice_62 ?_
          refine rx_aload_n C.1 (pc := 65) d_Mob_notice_65 rfl ?_
          refine g_Mob_29 D b ca C (by first | assumption | (constructor <;> omega) | omega | decide) (pc := 66) d_Mob_notice_66 ?_
          refine rx_icmp_ne C.1 (pc := 69) d_Mob_notice_69 (tgt := 83) rfl (fun h8 => ?_) (fun h8 => ?_)
          ·
            refine rx_aload_n C.1 (pc := 83) d_Mob_notice_83 rfl ?_
            refine rx_iconst C.1 (v := 0) (pc := 84) d_Mob_notice_84 (by decide) ?_
            refine p_Mob_63 D b ca C (by first | assumption | (constructor <;> omega) | omega | decide) (pc := 85) d_Mob_notice_85 ?_
            exact rx_vret C (pc := 88) d_Mob_notice_88 (by unfold sp_Mob_notice; first | (simp only [if_pos h1, if_neg h2, if_neg h6, if_neg h7, if_neg h8]; done) | (simp only [if_pos h1, if_neg h2, if_neg h6, if_neg h7, if_neg h8]; rfl))
          ·
            refine rx_aload_n C.1 (pc := 72) d_Mob_notice_72 rfl ?_
            refine rx_aload_n C.1 (pc := 73) d_Mob_notice_73 rfl ?_
            refine g_Mob_66 D b ca C (by first | assumption | (constructor <;> omega) | omega | decide) (pc := 74) d_Mob_notice_74 ?_
            refine q_Mob_73 D b ca C (by first | assumption | (constructor <;> omega) | omega | decide) (pc := 77) d_Mob_notice_77 (c_Mob_registerWith l D b ca (by first | assumption | (constructor <;> omega) | omega | decide) ) ⟨Nat.le_of_ble_eq_true rfl, Nat.le_of_ble_eq_true rfl⟩ ⟨Nat.zero_le _, Nat.zero_le _⟩ (Nat.le_of_ble_eq_true rfl) ?_
            refine rx_goto C.1 (pc := 80) d_Mob_notice_80 (tgt := 88) rfl ?_
            exact rx_vret C (pc := 88) d_Mob_notice_88 (by unfold sp_Mob_notice; first | (simp only [if_pos h1, if_neg h2, if_neg h6, if_neg h7, if_pos h8]; done) | (simp only [if_pos h1, if_neg h2, if_neg h6, if_neg h7, if_pos h8]; rfl))
  ·
    refine rx_aload_n C.1 (pc := 14) d_Mob_notice_14 rfl ?_
    refine rx_iconst C.1 (v := (-1)) (pc := 15) d_Mob_notice_15 (by decide) ?_
    refine p_Mob_29 D b ca C (by first | assumption | (constructor <;> omega) | omega | decide) (pc := 16) d_Mob_notice_16 ?_
    refine rx_aload_n C.1 (pc := 19) d_Mob_notice_19 rfl ?_
    refine g_Mob_26 D b ca C (by first | assumption | (constructor <;> omega) | omega | decide) (pc := 20) d_Mob_notice_20 ?_
    refine rx_aload_n C.1 (pc := 23) d_Mob_notice_23 rfl ?_
    refine g_Mob_18 D b ca C (by first | assumption | (constructor <;> omega) | omega | decide) (pc := 24) d_Mob_notice_24 ?_
    refine g_Mob_55 D b ca C (pc := 27) d_Mob_notice_27 ?_
    refine rx_icmp_gt C.1 (pc := 30) d_Mob_notice_30 (tgt := 38) rfl (fun h9 => ?_) (fun h9 => ?_)
    ·
      refine rx_aload_n C.1 (pc := 38) d_Mob_notice_38 rfl ?_
      refine g_Mob_63 D b ca C (by first | assumption | (constructor <;> omega) | omega | decide) (pc := 39) d_Mob_notice_39 ?_
      refine rx_if_eq C.1 (pc := 42) d_Mob_notice_42 (tgt := 88) rfl (fun h10 => ?_) (fun h10 => ?_)
      ·
        exact rx_vret C (pc := 88) d_Mob_notice_88 (by unfold sp_Mob_notice; first | (simp only [if_neg h1, if_pos h9, if_pos h10]; done) | (simp only [if_neg h1, if_pos h9, if_pos h10]; rfl))
      ·
        refine rx_aload_n C.1 (pc := 45) d_Mob_notice_45 rfl ?_
        refine g_Mob_18 D b ca C (by first | assumption | (constructor <;> omega) | omega | decide) (pc := 46) d_Mob_notice_46 ?_
        refine g_Mob_55 D b ca C (pc := 49) d_Mob_notice_49 ?_
        refine rx_aload_n C.1 (pc := 52) d_Mob_notice_52 rfl ?_
        refine g_Mob_99 D b ca C (by first | assumption | (constructor <;> omega) | omega | decide) (pc := 53) d_Mob_notice_53 ?_
        refine rx_isub C.1 (pc := 56) d_Mob_notice_56 ?_
        refine rx_iconst C.1 (v := 3) (pc := 57) d_Mob_notice_57 (by decide) ?_
        refine rx_icmp_lt C.1 (pc := 58) d_Mob_notice_58 (tgt := 88) rfl (fun h11 => ?_) (fun h11 => ?_)
        ·
          exact rx_vret C (pc := 88) d_Mob_notice_88 (by unfold sp_Mob_notice; first | (simp only [if_neg h1, if_pos h9, if_neg h10, if_pos h11]; done) | (simp only [if_neg h1, if_pos h9, if_neg h10, if_pos h11]; rfl))
        ·
          refine rx_aload_n C.1 (pc := 61) d_Mob_notice_61 rfl ?_
          refine g_Mob_66 D b ca C (by first | assumption | (constructor <;> omega) | omega | decide) (pc := 62) d_Mob_notice_62 ?_
          refine rx_aload_n C.1 (pc := 65) d_Mob_notice_65 rfl ?_
          refine g_Mob_29 D b ca C (by first | assumption | (constructor <;> omega) | omega | decide) (pc := 66) d_Mob_notice_66 ?_
          refine rx_icmp_ne C.1 (pc := 69) d_Mob_notice_69 (tgt := 83) rfl (fun h12 => ?_) (fun h12 => ?_)
          ·
            refine rx_aload_n C.1 (pc := 83) d_Mob_notice_83 rfl ?_
            refine rx_iconst C.1 (v := 0) (pc := 84) d_Mob_notice_84 (by decide) ?_
            refine p_Mob_63 D b ca C (by first | assumption | (constructor <;> omega) | omega | decide) (pc := 85) d_Mob_notice_85 ?_
            exact rx_vret C (pc := 88) d_Mob_notice_88 (by unfold sp_Mob_notice; first | (simp only [if_neg h1, if_pos h9, if_neg h10, if_neg h11, if_neg h12]; done) | (simp only [if_neg h1, if_pos h9, if_neg h10, if_neg h11, if_neg h12]; rfl))
          ·
            refine rx_aload_n C.1 (pc := 72) d_Mob_notice_72 rfl ?_
            refine rx_aload_n C.1 (pc := 73) d_Mob_notice_73 rfl ?_
            refine g_Mob_66 D b ca C (by first | assumption | (constructor <;> omega) | omega | decide) (pc := 74) d_Mob_notice_74 ?_
            refine q_Mob_73 D b ca C (by first | assumption | (constructor <;> omega) | omega | decide) (pc := 77) d_Mob_notice_77 (c_Mob_registerWith l D b ca (by first | assumption | (constructor <;> omega) | omega | decide) ) ⟨Nat.le_of_ble_eq_true rfl, Nat.le_of_ble_eq_true rfl⟩ ⟨Nat.zero_le _, Nat.zero_le _⟩ (Nat.le_of_ble_eq_true rfl) ?_
            refine rx_goto C.1 (pc := 80) d_Mob_notice_80 (tgt := 88) rfl ?_
            exact rx_vret C (pc := 88) d_Mob_notice_88 (by unfold sp_Mob_notice; first | (simp only [if_neg h1, if_pos h9, if_neg h10, if_neg h11, if_pos h12]; done) | (simp only [if_neg h1, if_pos h9, if_neg h10, if_neg h11, if_pos h12]; rfl))
    ·
      refine rx_aload_n C.1 (pc := 33) d_Mob_notice_33 rfl ?_
      refine rx_iconst C.1 (v := (-1)) (pc := 34) d_Mob_notice_34 (by decide) ?_
      refine p_Mob_22 D b ca C (by first | assumption | (constructor <;> omega) | omega | decide) (pc := 35) d_Mob_notice_35 ?_
      refine rx_aload_n C.1 (pc := 38) d_Mob_notice_38 rfl ?_
      refine g_Mob_63 D b ca C (by first | assumption | (constructor <;> omega) | omega | decide) (pc := 39) d_Mob_notice_39 ?_
      refine rx_if_eq C.1 (pc := 42) d_Mob_notice_42 (tgt := 88) rfl (fun h13 => ?_) (fun h13 => ?_)
      ·
        exact rx_vret C (pc := 88) d_Mob_notice_88 (by unfold sp_Mob_notice; first | (simp only [if_neg h1, if_neg h9, if_pos h13]; done) | (simp only [if_neg h1, if_neg h9, if_pos h13]; rfl))
      ·
        refine rx_aload_n C.1 (pc := 45) d_Mob_notice_45 rfl ?_
        refine g_Mob_18 D b ca C (by first | assumption | (constructor <;> omega) | omega | decide) (pc := 46) d_Mob_notice_46 ?_
        refine g_Mob_55 D b ca C (pc := 49) d_Mob_notice_49 ?_
        refine rx_aload_n C.1 (pc := 52) d_Mob_notice_52 rfl ?_
        refine g_Mob_99 D b ca C (by first | assumption | (constructor <;> omega) | omega | decide) (pc := 53) d_Mob_notice_53 ?_
        refine rx_isub C.1 (pc := 56) d_Mob_notice_56 ?_
        refine rx_iconst C.1 (v := 3) (pc := 57) d_Mob_notice_57 (by decide) ?_
        refine rx_icmp_lt C.1 (pc := 58) d_Mob_notice_58 (tgt := 88) rfl (fun h14 => ?_) (fun h14 => ?_)
        ·
          exact rx_vret C (pc := 88) d_Mob_notice_88 (by unfold sp_Mob_notice; first | (simp only [if_neg h1, if_neg h9, if_neg h13, if_pos h14]; done) | (simp only [if_neg h1, if_neg h9, if_neg h13, if_pos h14]; rfl))
        ·
          refine rx_aload_n C.1 (pc := 61) d_Mob_notice_61 rfl ?_
          refine g_Mob_66 D b ca C (by first | assumption | (constructor <;> omega) | omega | decide) (pc := 62) d_Mob_notice_62 ?_
          refine rx_aload_n C.1 (pc := 65) d_Mob_notice_65 rfl ?_
          refine g_Mob_29 D b ca C (by first | assumption | (constructor <;> omega) | omega | decide) (pc := 66) d_Mob_notice_66 ?_
          refine rx_icmp_ne C.1 (pc := 69) d_Mob_notice_69 (tgt := 83) rfl (fun h15 => ?_) (fun h15 => ?_)
          ·
            refine rx_aload_n C.1 (pc := 83) d_Mob_notice_83 rfl ?_
            refine rx_iconst C.1 (v := 0) (pc := 84) d_Mob_notice_84 (by decide) ?_
            refine p_Mob_63 D b ca C (by first | assumption | (constructor <;> omega) | omega | decide) (pc := 85) d_Mob_notice_85 ?_
            exact rx_vret C (pc := 88) d_Mob_notice_88 (by unfold sp_Mob_notice; first | (simp only [if_neg h1, if_neg h9, if_neg h13, if_neg h14, if_neg h15]; done) | (simp only [if_neg h1, if_neg h9, if_neg h13, if_neg h14, if_neg h15]; rfl))
          ·
            refine rx_aload_n C.1 (pc := 72) d_Mob_notice_72 rfl ?_
            refine rx_aload_n C.1 (pc := 73) d_Mob_notice_73 rfl ?_
            refine g_Mob_66 D b ca C (by first | assumption | (constructor <;> omega) | omega | decide) (pc := 74) d_Mob_notice_74 ?_
            refine q_Mob_73 D b ca C (by first | assumption | (constructor <;> omega) | omega | decide) (pc := 77) d_Mob_notice_77 (c_Mob_registerWith l D b ca (by first | assumption | (constructor <;> omega) | omega | decide) ) ⟨Nat.le_of_ble_eq_true rfl, Nat.le_of_ble_eq_true rfl⟩ ⟨Nat.zero_le _, Nat.zero_le _⟩ (Nat.le_of_ble_eq_true rfl) ?_
            refine rx_goto C.1 (pc := 80) d_Mob_notice_80 (tgt := 88) rfl ?_
            exact rx_vret C (pc := 88) d_Mob_notice_88 (by unfold sp_Mob_notice; first | (simp only [if_neg h1, if_neg h9, if_neg h13, if_neg h14, if_pos h15]; done) | (simp only [if_neg h1, if_neg h9, if_neg h13, if_neg h14, if_pos h15]; rfl))

def rv_Home_isBound (σ : rMem) (m : Int32) : Int32 := if (σ 52 m.toNatClampNeg) ≤ (σ 1 2) then 0 else 1
set_option maxHeartbeats 4000000 in
set_option maxRecDepth 100000 in
theorem c_Home_isBound (l : Launch) (D : va_G) (b : Nat) (ca : Nat → ClassId) {σ : rMem} {m : Int32} (hm : rx_iM m) : rx_C l (rx_fin D b ca) y_Home_isBound b_Home_isBound 2 (some .boolean) (rx_rm 0) [.ref (rg_A (rx_fin D b ca) 48), .int m] σ (some (.int (rv_Home_isBound σ m))) σ := by
  refine rx_of (lo := [(0, .ref (rg_A (rx_fin D b ca) 48)), (1, .int m)]) (by decide) (rx_fin_D D b ca) rfl (Nat.le_of_ble_eq_true rfl) rfl ?_
  intro p e s mm below meth c C
  refine rx_aload_n C.1 (pc := 0) d_Home_isBound_0 rfl ?_
  refine g_Home_15 D b ca C (pc := 1) d_Home_isBound_1 ?_
  refine g_Home_32 D b ca C (pc := 4) d_Home_isBound_4 ?_
  refine rx_aload_n C.1 (pc := 7) d_Home_isBound_7 rfl ?_
  refine g_Home_29 D b ca C (pc := 8) d_Home_isBound_8 ?_
  refine rx_iload_n C.1 (pc := 11) d_Home_isBound_11 rfl ?_
  refine rx_iald C (i := 52) (n := 2) (pc := 12) d_Home_isBound_12 (rx_lt (by decide)) rfl (by first | assumption | exact rx_in2 (by assumption) | exact rx_v02 | exact rx_v12) ?_
  refine rx_icmp_ge C.1 (pc := 13) d_Home_isBound_13 (tgt := 20) rfl (fun h1 => ?_) (fun h1 => ?_)
  ·
    refine rx_iconst C.1 (v := 0) (pc := 20) d_Home_isBound_20 (by decide) ?_
    exact rx_zret C (pc := 21) d_Home_isBound_21 (Or.inl rfl) (by unfold rv_Home_isBound; first | (simp only [if_pos h1]; done) | (simp only [if_pos h1]; rfl)) rfl
  ·
    refine rx_iconst C.1 (v := 1) (pc := 16) d_Home_isBound_16 (by decide) ?_
    refine rx_goto C.1 (pc := 17) d_Home_isBound_17 (tgt := 21) rfl ?_
    exact rx_zret C (pc := 21) d_Home_isBound_21 (Or.inr rfl) (by unfold rv_Home_isBound; first | (simp only [if_neg h1]; done) | (simp only [if_neg h1]; rfl)) rfl

def rv_Home_judge (σ : rMem) (r : Nat) : Int32 := if (σ r 8) = (rv_Msg_requestSeal σ r (σ 49 (σ r 3).toNatClampNeg)) then (if (σ 50 (σ r 3).toNatClampNeg) < (σ r 4) then 0 else 133) else 131
set_option maxHeartbeats 4000000 in
set_option maxRecDepth 100000 in
theorem c_Home_judge (l : Launch) (D : va_G) (b : Nat) (ca : Nat → ClassId) {σ : rMem} {r : Nat} (hr : 3 ≤ r ∧ r < 45) (hm : rx_iM (σ r 3)) : rx_C l (rx_fin D b ca) y_Home_judge b_Home_judge 3 (some .int) (rx_rm 2) [.ref (rg_A (rx_fin D b ca) 48), .ref (rg_A (rx_fin D b ca) r)] σ (some (.int (rv_Home_judge σ r))) σ := by
  refine rx_of (lo := [(0, .ref (rg_A (rx_fin D b ca) 48)), (1, .ref (rg_A (rx_fin D b ca) r))]) (by decide) (rx_fin_D D b ca) rfl (Nat.le_of_ble_eq_true rfl) rfl ?_
  intro p e s mm below meth c C
  refine rx_aload_n C.1 (pc := 0) d_Home_judge_0 rfl ?_
  refine g_Home_46 D b ca C (by first | assumption | (constructor <;> omega) | omega | decide) (pc := 1) d_Home_judge_1 ?_
  refine rx_istore_n C.1 (pc := 4) d_Home_judge_4 (by decide) ?_
  refine rx_aload_n C.1 (pc := 5) d_Home_judge_5 rfl ?_
  refine g_Home_85 D b ca C (by first | assumption | (constructor <;> omega) | omega | decide) (pc := 6) d_Home_judge_6 ?_
  refine rx_aload_n C.1 (pc := 9) d_Home_judge_9 rfl ?_
  refine rx_aload_n C.1 (pc := 10) d_Home_judge_10 rfl ?_
  refine g_Home_19 D b ca C (pc := 11) d_Home_judge_11 ?_
  refine rx_iload_n C.1 (pc := 14) d_Home_judge_14 rfl ?_
  refine rx_iald C (i := 49) (n := 2) (pc := 15) d_Home_judge_15 (rx_lt (by decide)) rfl (by first | assumption | exact rx_in2 (by assumption) | exact rx_v02 | exact rx_v12) ?_
  refine q_Home_88 D b ca C (by first | assumption | (constructor <;> omega) | omega | decide) (pc := 16) d_Home_judge_16 (c_Msg_requestSeal l D b ca (by first | assumption | (constructor <;> omega) | omega | decide) ) ⟨Nat.le_of_ble_eq_true rfl, Nat.le_of_ble_eq_true rfl⟩ ⟨Nat.zero_le _, Nat.zero_le _⟩ (Nat.le_of_ble_eq_true rfl) ?_
  refine rx_icmp_eq C.1 (pc := 19) d_Home_judge_19 (tgt := 26) rfl (fun h1 => ?_) (fun h1 => ?_)
  ·
    refine rx_aload_n C.1 (pc := 26) d_Home_judge_26 rfl ?_
    refine g_Home_49 D b ca C (by first | assumption | (constructor <;> omega) | omega | decide) (pc := 27) d_Home_judge_27 ?_
    refine rx_aload_n C.1 (pc := 30) d_Home_judge_30 rfl ?_
    refine g_Home_23 D b ca C (pc := 31) d_Home_judge_31 ?_
    refine rx_iload_n C.1 (pc := 34) d_Home_judge_34 rfl ?_
    refine rx_iald C (i := 50) (n := 2) (pc := 35) d_Home_judge_35 (rx_lt (by decide)) rfl (by first | assumption | exact rx_in2 (by assumption) | exact rx_v02 | exact rx_v12) ?_
    refine rx_icmp_gt C.1 (pc := 36) d_Home_judge_36 (tgt := 45) rfl (fun h2 => ?_) (fun h2 => ?_)
    ·
      refine rx_iconst C.1 (v := 0) (pc := 45) d_Home_judge_45 (by decide) ?_
      exact rx_iret C (pc := 46) d_Home_judge_46 (by unfold rv_Home_judge; first | (simp only [if_pos h1, if_pos h2]; done) | (simp only [if_pos h1, if_pos h2]; rfl)) rfl
    ·
      refine rx_sipush C.1 (v := 133) (pc := 39) d_Home_judge_39 (by decide) ?_
      refine rx_goto C.1 (pc := 42) d_Home_judge_42 (tgt := 46) rfl ?_
      exact rx_iret C (pc := 46) d_Home_judge_46 (by unfold rv_Home_judge; first | (simp only [if_pos h1, if_neg h2]; done) | (simp only [if_pos h1, if_neg h2]; rfl)) rfl
  ·
    refine rx_sipush C.1 (v := 131) (pc := 22) d_Home_judge_22 (by decide) ?_
    exact rx_iret C (pc := 25) d_Home_judge_25 (by unfold rv_Home_judge; first | (simp only [if_neg h1]; done) | (simp only [if_neg h1]; rfl)) rfl

def sp_Home_takeRequest (σ : rMem) (r : Nat) : rMem := if (rv_Home_judge σ r) = 0 then (let m11 := rx_wr σ 50 (σ r 3).toNatClampNeg (σ r 4); let m12 := rx_wr m11 51 (σ r 3).toNatClampNeg (m11 r 5); let m13 := rx_wr m12 52 (σ r 3).toNatClampNeg ((m12 1 2) + (if (σ 48 0) < (σ r 7) then (σ 48 0) else (σ r 7))); if (m13 r 5) = 0 then (let m19 := (sp_Wire_sendInNetwork m13 0 3 (σ r 3) (m13 r 4)).1; let m20 := rx_wr m19 ((sp_Wire_sendInNetwork m13 0 3 (σ r 3) (m13 r 4)).2) 5 (m19 r 5); let m21 := rx_wr m20 ((sp_Wire_sendInNetwork m13 0 3 (σ r 3) (m13 r 4)).2) 6 (rv_Home_judge σ r); let m22 := rx_wr m21 ((sp_Wire_sendInNetwork m13 0 3 (σ r 3) (m13 r 4)).2) 7 (if (σ 48 0) < (σ r 7) then (σ 48 0) else (σ r 7)); let m23 := rx_wr m22 ((sp_Wire_sendInNetwork m13 0 3 (σ r 3) (m13 r 4)).2) 8 (rv_Msg_replySeal m22 ((sp_Wire_sendInNetwork m13 0 3 (σ r 3) (m13 r 4)).2) (m22 49 (σ r 3).toNatClampNeg)); m23) else (let m14 := (sp_Wire_sendTo m13 (m13 r 5) 3 (σ r 3) (m13 r 4)).1; let m15 := rx_wr m14 ((sp_Wire_sendTo m13 (m13 r 5) 3 (σ r 3) (m13 r 4)).2) 5 (m14 r 5); let m16 := rx_wr m15 ((sp_Wire_sendTo m13 (m13 r 5) 3 (σ r 3) (m13 r 4)).2) 6 (rv_Home_judge σ r); let m17 := rx_wr m16 ((sp_Wire_sendTo m13 (m13 r 5) 3 (σ r 3) (m13 r 4)).2) 7 (if (σ 48 0) < (σ r 7) then (σ 48 0) else (σ r 7)); let m18 := rx_wr m17 ((sp_Wire_sendTo m13 (m13 r 5) 3 (σ r 3) (m13 r 4)).2) 8 (rv_Msg_replySeal m17 ((sp_Wire_sendTo m13 (m13 r 5) 3 (σ r 3) (m13 r 4)).2) (m17 49 (σ r 3).toNatClampNeg)); m18)) else (if (σ r 5) = 0 then (let m6 := (sp_Wire_sendInNetwork σ 0 3 (σ r 3) (σ r 4)).1; let m7 := rx_wr m6 ((sp_Wire_sendInNetwork σ 0 3 (σ r 3) (σ r 4)).2) 5 (m6 r 5); let m8 := rx_wr m7 ((sp_Wire_sendInNetwork σ 0 3 (σ r 3) (σ r 4)).2) 6 (rv_Home_judge σ r); let m9 := rx_wr m8 ((sp_Wire_sendInNetwork σ 0 3 (σ r 3) (σ r 4)).2) 7 0; let m10 := rx_wr m9 ((sp_Wire_sendInNetwork σ 0 3 (σ r 3) (σ r 4)).2) 8 (rv_Msg_replySeal m9 ((sp_Wire_sendInNetwork σ 0 3 (σ r 3) (σ r 4)).2) (m9 49 (σ r 3).toNatClampNeg)); m10) else (let m1 := (sp_Wire_sendTo σ (σ r 5) 3 (σ r 3) (σ r 4)).1; let m2 := rx_wr m1 ((sp_Wire_sendTo σ (σ r 5) 3 (σ r 3) (σ r 4)).2) 5 (m1 r 5); let m3 := rx_wr m2 ((sp_Wire_sendTo σ (σ r 5) 3 (σ r 3) (σ r 4)).2) 6 (rv_Home_judge σ r); let m4 := rx_wr m3 ((sp_Wire_sendTo σ (σ r 5) 3 (σ r 3) (σ r 4)).2) 7 0; let m5 := rx_wr m4 ((sp_Wire_sendTo σ (σ r 5) 3 (σ r 3) (σ r 4)).2) 8 (rv_Msg_replySeal m4 ((sp_Wire_sendTo σ (σ r 5) 3 (σ r 3) (σ r 4)).2) (m4 49 (σ r 3).toNatClampNeg)); m5))
set_option maxHeartbeats 4000000 in
set_option maxRecDepth 100000 in
theorem c_Home_takeRequest (l : Launch) (D : va_G) (b : Nat) (ca : Nat → ClassId) {σ : rMem} {r : Nat} (hr : 3 ≤ r ∧ r < 45) (hm : rx_iM (σ r 3)) : rx_C l (rx_fin D b ca) y_Home_takeRequest b_Home_takeRequest 6 none (rx_rm 4) [.ref (rg_A (rx_fin D b ca) 48), .ref (rg_A (rx_fin D b ca) r)] σ none (sp_Home_takeRequest σ r) := by
  refine rx_of (lo := [(0, .ref (rg_A (rx_fin D b ca) 48)), (1, .ref (rg_A (rx_fin D b ca) r))]) (by decide) (rx_fin_D D b ca) rfl (Nat.le_of_ble_eq_true rfl) rfl ?_
  intro p e s mm below meth c C
  refine rx_aload_n C.1 (pc := 0) d_Home_takeRequest_0 rfl ?_
  refine g_Home_46 D b ca C (by first | assumption | (constructor <;> omega) | omega | decide) (pc := 1) d_Home_takeRequest_1 ?_
  refine rx_istore_n C.1 (pc := 4) d_Home_takeRequest_4 (by decide) ?_
  refine rx_aload_n C.1 (pc := 5) d_Home_takeRequest_5 rfl ?_
  refine rx_aload_n C.1 (pc := 6) d_Home_takeRequest_6 rfl ?_
  refine q_Home_56 D b ca C (pc := 7) d_Home_takeRequest_7 (c_Home_judge l D b ca (by first | assumption | exact rx_iM0 | exact rx_iM1 | (constructor <;> omega)) (by first | assumption | exact rx_iM0 | exact rx_iM1 | (constructor <;> omega))) ⟨Nat.le_of_ble_eq_true rfl, Nat.le_of_ble_eq_true rfl⟩ ⟨Nat.zero_le _, Nat.zero_le _⟩ (Nat.le_of_ble_eq_true rfl) ?_
  refine rx_istore_n C.1 (pc := 10) d_Home_takeRequest_10 (by decide) ?_
  refine rx_iload_n C.1 (pc := 11) d_Home_takeRequest_11 rfl ?_
  refine rx_if_ne C.1 (pc := 12) d_Home_takeRequest_12 (tgt := 29) rfl (fun h1 => ?_) (fun h1 => ?_)
  ·
    refine rx_iconst C.1 (v := 0) (pc := 29) d_Home_takeRequest_29 (by decide) ?_
    refine rx_istore C.1 (pc := 30) d_Home_takeRequest_30 (by decide) ?_
    refine rx_iload_n C.1 (pc := 32) d_Home_takeRequest_32 rfl ?_
    refine rx_if_ne C.1 (pc := 33) d_Home_takeRequest_33 (tgt := 72) rfl (fun _ => ?_) (fun h9 => absurd h9 h1)
    refine rx_aload_n C.1 (pc := 72) d_Home_takeRequest_72 rfl ?_
    refine g_Home_69 D b ca C (by first | assumption | (constructor <;> omega) | omega | decide) (pc := 73) d_Home_takeRequest_73 ?_
    refine rx_if_ne C.1 (pc := 76) d_Home_takeRequest_76 (tgt := 96) rfl (fun h2 => ?_) (fun h2 => ?_)
    ·
      refine rx_aload_n C.1 (pc := 96) d_Home_takeRequest_96 rfl ?_
      refine g_Home_15 D b ca C (pc := 97) d_Home_takeRequest_97 ?_
      refine rx_aload_n C.1 (pc := 100) d_Home_takeRequest_100 rfl ?_
      refine g_Home_69 D b ca C (by first | assumption | (constructor <;> omega) | omega | decide) (pc := 101) d_Home_takeRequest_101 ?_
      refine rx_iconst C.1 (v := 3) (pc := 104) d_Home_takeRequest_104 (by decide) ?_
      refine rx_iload_n C.1 (pc := 105) d_Home_takeRequest_105 rfl ?_
      refine rx_aload_n C.1 (pc := 106) d_Home_takeRequest_106 rfl ?_
      refine g_Home_49 D b ca C (by first | assumption | (constructor <;> omega) | omega | decide) (pc := 107) d_Home_takeRequest_107 ?_
      refine q_Home_75 D b ca C (pc := 110) d_Home_takeRequest_110 (c_Wire_sendTo l D b ca ) (fun hI => rq_Wire_sendTo hI) ⟨Nat.le_of_ble_eq_true rfl, Nat.le_of_ble_eq_true rfl⟩ ⟨Nat.zero_le _, Nat.zero_le _⟩ (Nat.le_of_ble_eq_true rfl) (fun hq2 => ?_)
      refine rx_astore C.1 (pc := 113) d_Home_takeRequest_113 (by decide) ?_
      refine rx_aload C.1 (pc := 115) d_Home_takeRequest_115 rfl ?_
      refine rx_aload_n C.1 (pc := 117) d_Home_takeRequest_117 rfl ?_
      refine g_Home_69 D b ca C (by first | assumption | (constructor <;> omega) | omega | decide) (pc := 118) d_Home_takeRequest_118 ?_
      refine p_Home_69 D b ca C (by first | assumption | (constructor <;> omega) | omega | decide) (pc := 121) d_Home_takeRequest_121 ?_
      refine rx_aload C.1 (pc := 124) d_Home_takeRequest_124 rfl ?_
      refine rx_iload_n C.1 (pc := 126) d_Home_takeRequest_126 rfl ?_
      refine p_Home_78 D b ca C (by first | assumption | (constructor <;> omega) | omega | decide) (pc := 127) d_Home_takeRequest_127 ?_
      refine rx_aload C.1 (pc := 130) d_Home_takeRequest_130 rfl ?_
      refine rx_iload C.1 (pc := 132) d_Home_takeRequest_132 rfl ?_
      refine p_Home_60 D b ca C (by first | assumption | (constructor <;> omega) | omega | decide) (pc := 134) d_Home_takeRequest_134 ?_
      refine rx_aload C.1 (pc := 137) d_Home_takeRequest_137 rfl ?_
      refine rx_aload C.1 (pc := 139) d_Home_takeRequest_139 rfl ?_
      refine rx_aload_n C.1 (pc := 141) d_Home_takeRequest_141 rfl ?_
      refine g_Home_19 D b ca C (pc := 142) d_Home_takeRequest_142 ?_
      refine rx_iload_n C.1 (pc := 145) d_Home_takeRequest_145 rfl ?_
      refine rx_iald C (i := 49) (n := 2) (pc := 146) d_Home_takeRequest_146 (rx_lt (by decide)) rfl (by first | assumption | exact rx_in2 (by assumption) | exact rx_v02 | exact rx_v12) ?_
      refine q_Home_81 D b ca C (by first | assumption | (constructor <;> omega) | omega | decide) (pc := 147) d_Home_takeRequest_147 (c_Msg_replySeal l D b ca (by first | assumption | (constructor <;> omega) | omega | decide) ) ⟨Nat.le_of_ble_eq_true rfl, Nat.le_of_ble_eq_true rfl⟩ ⟨Nat.zero_le _, Nat.zero_le _⟩ (Nat.le_of_ble_eq_true rfl) ?_
      refine p_Home_85 D b ca C (by first | assumption | (constructor <;> omega) | omega | decide) (pc := 150) d_Home_takeRequest_150 ?_
      exact rx_vret C (pc := 153) d_Home_takeRequest_153 (by unfold sp_Home_takeRequest; first | (simp only [if_neg h1, if_neg h2]; done) | (simp only [if_neg h1, if_neg h2]; rfl))
    ·
      refine rx_aload_n C.1 (pc := 79) d_Home_takeRequest_79 rfl ?_
      refine g_Home_15 D b ca C (pc := 80) d_Home_takeRequest_80 ?_
      refine rx_iconst C.1 (v := 0) (pc := 83) d_Home_takeRequest_83 (by decide) ?_
      refine rx_iconst C.1 (v := 3) (pc := 84) d_Home_takeRequest_84 (by decide) ?_
      refine rx_iload_n C.1 (pc := 85) d_Home_takeRequest_85 rfl ?_
      refine rx_aload_n C.1 (pc := 86) d_Home_takeRequest_86 rfl ?_
      refine g_Home_49 D b ca C (by first | assumption | (constructor <;> omega) | omega | decide) (pc := 87) d_Home_takeRequest_87 ?_
      refine q_Home_71 D b ca C (pc := 90) d_Home_takeRequest_90 (c_Wire_sendInNetwork l D b ca ) (fun hI => rq_Wire_sendInNetwork hI) ⟨Nat.le_of_ble_eq_true rfl, Nat.le_of_ble_eq_true rfl⟩ ⟨Nat.zero_le _, Nat.zero_le _⟩ (Nat.le_of_ble_eq_true rfl) (fun hq4 => ?_)
      refine rx_goto C.1 (pc := 93) d_Home_takeRequest_93 (tgt := 113) rfl ?_
      refine rx_astore C.1 (pc := 113) d_Home_takeRequest_113 (by decide) ?_
      refine rx_aload C.1 (pc := 115) d_Home_takeRequest_115 rfl ?_
      refine rx_aload_n C.1 (pc := 117) d_Home_takeRequest_117 rfl ?_
      refine g_Home_69 D b ca C (by first | assumption | (constructor <;> omega) | omega | decide) (pc := 118) d_Home_takeRequest_118 ?_
      refine p_Home_69 D b ca C (by first | assumption | (constructor <;> omega) | omega | decide) (pc := 121) d_Home_takeRequest_121 ?_
      refine rx_aload C.1 (pc := 124) d_Home_takeRequest_124 rfl ?_
      refine rx_iload_n C.1 (pc := 126) d_Home_takeRequest_126 rfl ?_
      refine p_Home_78 D b ca C (by first | assumption | (constructor <;> omega) | omega | decide) (pc := 127) d_Home_takeRequest_127 ?_
      refine rx_aload C.1 (pc := 130) d_Home_takeRequest_130 rfl ?_
      refine rx_iload C.1 (pc := 132) d_Home_takeRequest_132 rfl ?_
      refine p_Home_60 D b ca C (by first | assumption | (constructor <;> omega) | omega | decide) (pc := 134) d_Home_takeRequest_134 ?_
      refine rx_aload C.1 (pc := 137) d_Home_takeRequest_137 rfl ?_
      refine rx_aload C.1 (pc := 139) d_Home_takeRequest_139 rfl ?_
      refine rx_aload_n C.1 (pc := 141) d_Home_takeRequest_141 rfl ?_
      refine g_Home_19 D b ca C (pc := 142) d_Home_takeRequest_142 ?_
      refine rx_iload_n C.1 (pc := 145) d_Home_takeRequest_145 rfl ?_
      refine rx_iald C (i := 49) (n := 2) (pc := 146) d_Home_takeRequest_146 (rx_lt (by decide)) rfl (by first | assumption | exact rx_in2 (by assumption) | exact rx_v02 | exact rx_v12) ?_
      refine q_Home_81 D b ca C (by first | assumption | (constructor <;> omega) | omega | decide) (pc := 147) d_Home_takeRequest_147 (c_Msg_replySeal l D b ca (by first | assumption | (constructor <;> omega) | omega | decide) ) ⟨Nat.le_of_ble_eq_true rfl, Nat.le_of_ble_eq_true rfl⟩ ⟨Nat.zero_le _, Nat.zero_le _⟩ (Nat.le_of_ble_eq_true rfl) ?_
      refine p_Home_85 D b ca C (by first | assumption | (constructor <;> omega) | omega | decide) (pc := 150) d_Home_takeRequest_150 ?_
      exact rx_vret C (pc := 153) d_Home_takeRequest_153 (by unfold sp_Home_takeRequest; first | (simp only [if_neg h1, if_pos h2]; done) | (simp only [if_neg h1, if_pos h2]; rfl))
  ·
    refine rx_aload_n C.1 (pc := 15) d_Home_takeRequest_15 rfl ?_
    refine g_Home_60 D b ca C (by first | assumption | (constructor <;> omega) | omega | decide) (pc := 16) d_Home_takeRequest_16 ?_
    refine rx_aload_n C.1 (pc := 19) d_Home_takeRequest_19 rfl ?_
    refine g_Home_9 D b ca C (pc := 20) d_Home_takeRequest_20 ?_
    refine rx_min D b ca C (pc := 23) d_Home_takeRequest_23 (Nat.le_of_ble_eq_true rfl) (Nat.le_of_ble_eq_true rfl) ⟨Nat.zero_le _, Nat.zero_le _⟩ ?_
    refine rx_goto C.1 (pc := 26) d_Home_takeRequest_26 (tgt := 30) rfl ?_
    refine rx_istore C.1 (pc := 30) d_Home_takeRequest_30 (by decide) ?_
    refine rx_iload_n C.1 (pc := 32) d_Home_takeRequest_32 rfl ?_
    refine rx_if_ne C.1 (pc := 33) d_Home_takeRequest_33 (tgt := 72) rfl (fun h9 => absurd h1 h9) (fun _ => ?_)
    refine rx_aload_n C.1 (pc := 36) d_Home_takeRequest_36 rfl ?_
    refine g_Home_23 D b ca C (pc := 37) d_Home_takeRequest_37 ?_
    refine rx_iload_n C.1 (pc := 40) d_Home_takeRequest_40 rfl ?_
    refine rx_aload_n C.1 (pc := 41) d_Home_takeRequest_41 rfl ?_
    refine g_Home_49 D b ca C (by first | assumption | (constructor <;> omega) | omega | decide) (pc := 42) d_Home_takeRequest_42 ?_
    refine rx_iast C (i := 50) (n := 2) (pc := 45) d_Home_takeRequest_45 (rx_lt (by decide)) (fun _ => rfl) (by first | assumption | exact rx_in2 (by assumption) | exact rx_v02 | exact rx_v12) (rx_SI_wr (by omega)) ?_
    refine rx_aload_n C.1 (pc := 46) d_Home_takeRequest_46 rfl ?_
    refine g_Home_26 D b ca C (pc := 47) d_Home_takeRequest_47 ?_
    refine rx_iload_n C.1 (pc := 50) d_Home_takeRequest_50 rfl ?_
    refine rx_aload_n C.1 (pc := 51) d_Home_takeRequest_51 rfl ?_
    refine g_Home_69 D b ca C (by first | assumption | (constructor <;> omega) | omega | decide) (pc := 52) d_Home_takeRequest_52 ?_
    refine rx_iast C (i := 51) (n := 2) (pc := 55) d_Home_takeRequest_55 (rx_lt (by decide)) (fun _ => rfl) (by first | assumption | exact rx_in2 (by assumption) | exact rx_v02 | exact rx_v12) (rx_SI_wr (by omega)) ?_
    refine rx_aload_n C.1 (pc := 56) d_Home_takeRequest_56 rfl ?_
    refine g_Home_29 D b ca C (pc := 57) d_Home_takeRequest_57 ?_
    refine rx_iload_n C.1 (pc := 60) d_Home_takeRequest_60 rfl ?_
    refine rx_aload_n C.1 (pc := 61) d_Home_takeRequest_61 rfl ?_
    refine g_Home_15 D b ca C (pc := 62) d_Home_takeRequest_62 ?_
    refine g_Home_32 D b ca C (pc := 65) d_Home_takeRequest_65 ?_
    refine rx_iload C.1 (pc := 68) d_Home_takeRequest_68 rfl ?_
    refine rx_iadd C.1 (pc := 70) d_Home_takeRequest_70 ?_
    refine rx_iast C (i := 52) (n := 2) (pc := 71) d_Home_takeRequest_71 (rx_lt (by decide)) (fun _ => rfl) (by first | assumption | exact rx_in2 (by assumption) | exact rx_v02 | exact rx_v12) (rx_SI_wr (by omega)) ?_
    refine rx_aload_n C.1 (pc := 72) d_Home_takeRequest_72 rfl ?_
    refine g_Home_69 D b ca C (by first | assumption | (constructor <;> omega) | omega | decide) (pc := 73) d_Home_takeRequest_73 ?_
    refine rx_if_ne C.1 (pc := 76) d_Home_takeRequest_76 (tgt := 96) rfl (fun h3 => ?_) (fun h3 => ?_)
    ·
      refine rx_aload_n C.1 (pc := 96) d_Home_takeRequest_96 rfl ?_
      refine g_Home_15 D b ca C (pc := 97) d_Home_takeRequest_97 ?_
      refine rx_aload_n C.1 (pc := 100) d_Home_takeRequest_100 rfl ?_
      refine g_Home_69 D b ca C (by first | assumption | (constructor <;> omega) | omega | decide) (pc := 101) d_Home_takeRequest_101 ?_
      refine rx_iconst C.1 (v := 3) (pc := 104) d_Home_takeRequest_104 (by decide) ?_
      refine rx_iload_n C.1 (pc := 105) d_Home_takeRequest_105 rfl ?_
      refine rx_aload_n C.1 (pc := 106) d_Home_takeRequest_106 rfl ?_
      refine g_Home_49 D b ca C (by first | assumption | (constructor <;> omega) | omega | decide) (pc := 107) d_Home_takeRequest_107 ?_
      refine q_Home_75 D b ca C (pc := 110) d_Home_takeRequest_110 (c_Wire_sendTo l D b ca ) (fun hI => rq_Wire_sendTo hI) ⟨Nat.le_of_ble_eq_true rfl, Nat.le_of_ble_eq_true rfl⟩ ⟨Nat.zero_le _, Nat.zero_le _⟩ (Nat.le_of_ble_eq_true rfl) (fun hq6 => ?_)
      refine rx_astore C.1 (pc := 113) d_Home_takeRequest_113 (by decide) ?_
      refine rx_aload C.1 (pc := 115) d_Home_takeRequest_115 rfl ?_
      refine rx_aload_n C.1 (pc := 117) d_Home_takeRequest_117 rfl ?_
      refine g_Home_69 D b ca C (by first | assumption | (constructor <;> omega) | omega | decide) (pc := 118) d_Home_takeRequest_118 ?_
      refine p_Home_69 D b ca C (by first | assumption | (constructor <;> omega) | omega | decide) (pc := 121) d_Home_takeRequest_121 ?_
      refine rx_aload C.1 (pc := 124) d_Home_takeRequest_124 rfl ?_
      refine rx_iload_n C.1 (pc := 126) d_Home_takeRequest_126 rfl ?_
      refine p_Home_78 D b ca C (by first | assumption | (constructor <;> omega) | omega | decide) (pc := 127) d_Home_takeRequest_127 ?_
      refine rx_aload C.1 (pc := 130) d_Home_takeRequest_130 rfl ?_
      refine rx_iload C.1 (pc := 132) d_Home_takeRequest_132 rfl ?_
      refine p_Home_60 D b ca C (by first | assumption | (constructor <;> omega) | omega | decide) (pc := 134) d_Home_takeRequest_134 ?_
      refine rx_aload C.1 (pc := 137) d_Home_takeRequest_137 rfl ?_
      refine rx_aload C.1 (pc := 139) d_Home_takeRequest_139 rfl ?_
      refine rx_aload_n C.1 (pc := 141) d_Home_takeRequest_141 rfl ?_
      refine g_Home_19 D b ca C (pc := 142) d_Home_takeRequest_142 ?_
      refine rx_iload_n C.1 (pc := 145) d_Home_takeRequest_145 rfl ?_
      refine rx_iald C (i := 49) (n := 2) (pc := 146) d_Home_takeRequest_146 (rx_lt (by decide)) rfl (by first | assumption | exact rx_in2 (by assumption) | exact rx_v02 | exact rx_v12) ?_
      refine q_Home_81 D b ca C (by first | assumption | (constructor <;> omega) | omega | decide) (pc := 147) d_Home_takeRequest_147 (c_Msg_replySeal l D b ca (by first | assumption | (constructor <;> omega) | omega | decide) ) ⟨Nat.le_of_ble_eq_true rfl, Nat.le_of_ble_eq_true rfl⟩ ⟨Nat.zero_le _, Nat.zero_le _⟩ (Nat.le_of_ble_eq_true rfl) ?_
      refine p_Home_85 D b ca C (by first | assumption | (constructor <;> omega) | omega | decide) (pc := 150) d_Home_takeRequest_150 ?_
      exact rx_vret C (pc := 153) d_Home_takeRequest_153 (by unfold sp_Home_takeRequest; first | (simp only [if_pos h1, if_neg h3]; done) | (simp only [if_pos h1, if_neg h3]; rfl))
    ·
      refine rx_aload_n C.1 (pc := 79) d_Home_takeRequest_79 rfl ?_
      refine g_Home_15 D b ca C (pc := 80) d_Home_takeRequest_80 ?_
      refine rx_iconst C.1 (v := 0) (pc := 83) d_Home_takeRequest_83 (by decide) ?_
      refine rx_iconst C.1 (v := 3) (pc := 84) d_Home_takeRequest_84 (by decide) ?_
      refine rx_iload_n C.1 (pc := 85) d_Home_takeRequest_85 rfl ?_
      refine rx_aload_n C.1 (pc := 86) d_Home_takeRequest_86 rfl ?_
      refine g_Home_49 D b ca C (by first | assumption | (constructor <;> omega) | omega | decide) (pc := 87) d_Home_takeRequest_87 ?_
      refine q_Home_71 D b ca C (pc := 90) d_Home_takeRequest_90 (c_Wire_sendInNetwork l D b ca ) (fun hI => rq_Wire_sendInNetwork hI) ⟨Nat.le_of_ble_eq_true rfl, Nat.le_of_ble_eq_true rfl⟩ ⟨Nat.zero_le _, Nat.zero_le _⟩ (Nat.le_of_ble_eq_true rfl) (fun hq8 => ?_)
      refine rx_goto C.1 (pc := 93) d_Home_takeRequest_93 (tgt := 113) rfl ?_
      refine rx_astore C.1 (pc := 113) d_Home_takeRequest_113 (by decide) ?_
      refine rx_aload C.1 (pc := 115) d_Home_takeRequest_115 rfl ?_
      refine rx_aload_n C.1 (pc := 117) d_Home_takeRequest_117 rfl ?_
      refine g_Home_69 D b ca C (by first | assumption | (constructor <;> omega) | omega | decide) (pc := 118) d_Home_takeRequest_118 ?_
      refine p_Home_69 D b ca C (by first | assumption | (constructor <;> omega) | omega | decide) (pc := 121) d_Home_takeRequest_121 ?_
      refine rx_aload C.1 (pc := 124) d_Home_takeRequest_124 rfl ?_
      refine rx_iload_n C.1 (pc := 126) d_Home_takeRequest_126 rfl ?_
      refine p_Home_78 D b ca C (by first | assumption | (constructor <;> omega) | omega | decide) (pc := 127) d_Home_takeRequest_127 ?_
      refine rx_aload C.1 (pc := 130) d_Home_takeRequest_130 rfl ?_
      refine rx_iload C.1 (pc := 132) d_Home_takeRequest_132 rfl ?_
      refine p_Home_60 D b ca C (by first | assumption | (constructor <;> omega) | omega | decide) (pc := 134) d_Home_takeRequest_134 ?_
      refine rx_aload C.1 (pc := 137) d_Home_takeRequest_137 rfl ?_
      refine rx_aload C.1 (pc := 139) d_Home_takeRequest_139 rfl ?_
      refine rx_aload_n C.1 (pc := 141) d_Home_takeRequest_141 rfl ?_
      refine g_Home_19 D b ca C (pc := 142) d_Home_takeRequest_142 ?_
      refine rx_iload_n C.1 (pc := 145) d_Home_takeRequest_145 rfl ?_
      refine rx_iald C (i := 49) (n := 2) (pc := 146) d_Home_takeRequest_146 (rx_lt (by decide)) rfl (by first | assumption | exact rx_in2 (by assumption) | exact rx_v02 | exact rx_v12) ?_
      refine q_Home_81 D b ca C (by first | assumption | (constructor <;> omega) | omega | decide) (pc := 147) d_Home_takeRequest_147 (c_Msg_replySeal l D b ca (by first | assumption | (constructor <;> omega) | omega | decide) ) ⟨Nat.le_of_ble_eq_true rfl, Nat.le_of_ble_eq_true rfl⟩ ⟨Nat.zero_le _, Nat.zero_le _⟩ (Nat.le_of_ble_eq_true rfl) ?_
      refine p_Home_85 D b ca C (by first | assumption | (constructor <;> omega) | omega | decide) (pc := 150) d_Home_takeRequest_150 ?_
      exact rx_vret C (pc := 153) d_Home_takeRequest_153 (by unfold sp_Home_takeRequest; first | (simp only [if_pos h1, if_pos h3]; done) | (simp only [if_pos h1, if_pos h3]; rfl))

def sp_Home_takeData (σ : rMem) (m : Int32) (nu : Int32) : rMem := if (rv_Home_isBound σ m) = 0 then (let m1 := (sp_Wire_sendInNetwork σ 0 4 m nu).1; m1) else (let m2 := (sp_Wire_sendTo σ (σ 51 m.toNatClampNeg) 5 m nu).1; m2)
set_option maxHeartbeats 4000000 in
set_option maxRecDepth 100000 in
theorem c_Home_takeData (l : Launch) (D : va_G) (b : Nat) (ca : Nat → ClassId) {σ : rMem} {m : Int32} {nu : Int32} (hm : rx_iM m) : rx_C l (rx_fin D b ca) y_Home_takeData b_Home_takeData 3 none (rx_rm 4) [.ref (rg_A (rx_fin D b ca) 48), .int m, .int nu] σ none (sp_Home_takeData σ m nu) := by
  refine rx_of (lo := [(0, .ref (rg_A (rx_fin D b ca) 48)), (1, .int m), (2, .int nu)]) (by decide) (rx_fin_D D b ca) rfl (Nat.le_of_ble_eq_true rfl) rfl ?_
  intro p e s mm below meth c C
  refine rx_aload_n C.1 (pc := 0) d_Home_takeData_0 rfl ?_
  refine rx_iload_n C.1 (pc := 1) d_Home_takeData_1 rfl ?_
  refine q_Home_91 D b ca C (pc := 2) d_Home_takeData_2 (c_Home_isBound l D b ca (by first | assumption | exact rx_iM0 | exact rx_iM1 | (constructor <;> omega))) ⟨Nat.le_of_ble_eq_true rfl, Nat.le_of_ble_eq_true rfl⟩ ⟨Nat.zero_le _, Nat.zero_le _⟩ (Nat.le_of_ble_eq_true rfl) ?_
  refine rx_if_eq C.1 (pc := 5) d_Home_takeData_5 (tgt := 28) rfl (fun h1 => ?_) (fun h1 => ?_)
  ·
    refine rx_aload_n C.1 (pc := 28) d_Home_takeData_28 rfl ?_
    refine g_Home_15 D b ca C (pc := 29) d_Home_takeData_29 ?_
    refine rx_iconst C.1 (v := 0) (pc := 32) d_Home_takeData_32 (by decide) ?_
    refine rx_iconst C.1 (v := 4) (pc := 33) d_Home_takeData_33 (by decide) ?_
    refine rx_iload_n C.1 (pc := 34) d_Home_takeData_34 rfl ?_
    refine rx_iload_n C.1 (pc := 35) d_Home_takeData_35 rfl ?_
    refine q_Home_71 D b ca C (pc := 36) d_Home_takeData_36 (c_Wire_sendInNetwork l D b ca ) (fun hI => rq_Wire_sendInNetwork hI) ⟨Nat.le_of_ble_eq_true rfl, Nat.le_of_ble_eq_true rfl⟩ ⟨Nat.zero_le _, Nat.zero_le _⟩ (Nat.le_of_ble_eq_true rfl) (fun hq2 => ?_)
    refine rx_pop C.1 (pc := 39) d_Home_takeData_39 rfl ?_
    exact rx_vret C (pc := 40) d_Home_takeData_40 (by unfold sp_Home_takeData; first | (simp only [if_pos h1]; done) | (simp only [if_pos h1]; rfl))
  ·
    refine rx_aload_n C.1 (pc := 8) d_Home_takeData_8 rfl ?_
    refine g_Home_15 D b ca C (pc := 9) d_Home_takeData_9 ?_
    refine rx_aload_n C.1 (pc := 12) d_Home_takeData_12 rfl ?_
    refine g_Home_26 D b ca C (pc := 13) d_Home_takeData_13 ?_
    refine rx_iload_n C.1 (pc := 16) d_Home_takeData_16 rfl ?_
    refine rx_iald C (i := 51) (n := 2) (pc := 17) d_Home_takeData_17 (rx_lt (by decide)) rfl (by first | assumption | exact rx_in2 (by assumption) | exact rx_v02 | exact rx_v12) ?_
    refine rx_iconst C.1 (v := 5) (pc := 18) d_Home_takeData_18 (by decide) ?_
    refine rx_iload_n C.1 (pc := 19) d_Home_takeData_19 rfl ?_
    refine rx_iload_n C.1 (pc := 20) d_Home_takeData_20 rfl ?_
    refine q_Home_75 D b ca C (pc := 21) d_Home_takeData_21 (c_Wire_sendTo l D b ca ) (fun hI => rq_Wire_sendTo hI) ⟨Nat.le_of_ble_eq_true rfl, Nat.le_of_ble_eq_true rfl⟩ ⟨Nat.zero_le _, Nat.zero_le _⟩ (Nat.le_of_ble_eq_true rfl) (fun hq3 => ?_)
    refine rx_pop C.1 (pc := 24) d_Home_takeData_24 rfl ?_
    refine rx_goto C.1 (pc := 25) d_Home_takeData_25 (tgt := 40) rfl ?_
    exact rx_vret C (pc := 40) d_Home_takeData_40 (by unfold sp_Home_takeData; first | (simp only [if_neg h1]; done) | (simp only [if_neg h1]; rfl))

def sp_Home_receive (σ : rMem) (r : Nat) : rMem := if (σ r 0) = 2 then (let m2 := sp_Home_takeRequest σ r; m2) else (if (σ r 0) = 4 then (let m1 := sp_Home_takeData σ (σ r 3) (σ r 4); m1) else σ)
set_option maxHeartbeats 4000000 in
set_option maxRecDepth 100000 in
theorem c_Home_receive (l : Launch) (D : va_G) (b : Nat) (ca : Nat → ClassId) {σ : rMem} {r : Nat} (hr : 3 ≤ r ∧ r < 45) (hm : rx_iM (σ r 3)) : rx_C l (rx_fin D b ca) y_Home_receive b_Home_receive 2 none (rx_rm 5) [.ref (rg_A (rx_fin D b ca) 48), .ref (rg_A (rx_fin D b ca) r)] σ none (sp_Home_receive σ r) := by
  refine rx_of (lo := [(0, .ref (rg_A (rx_fin D b ca) 48)), (1, .ref (rg_A (rx_fin D b ca) r))]) (by decide) (rx_fin_D D b ca) rfl (Nat.le_of_ble_eq_true rfl) rfl ?_
  intro p e s mm below meth c C
  refine rx_aload_n C.1 (pc := 0) d_Home_receive_0 rfl ?_
  refine g_Home_37 D b ca C (by first | assumption | (constructor <;> omega) | omega | decide) (pc := 1) d_Home_receive_1 ?_
  refine rx_iconst C.1 (v := 2) (pc := 4) d_Home_receive_4 (by decide) ?_
  refine rx_icmp_ne C.1 (pc := 5) d_Home_receive_5 (tgt := 16) rfl (fun h1 => ?_) (fun h1 => ?_)
  ·
    refine rx_aload_n C.1 (pc := 16) d_Home_receive_16 rfl ?_
    refine g_Home_37 D b ca C (by first | assumption | (constructor <;> omega) | omega | decide) (pc := 17) d_Home_receive_17 ?_
    refine rx_iconst C.1 (v := 4) (pc := 20) d_Home_receive_20 (by decide) ?_
    refine rx_icmp_ne C.1 (pc := 21) d_Home_receive_21 (tgt := 36) rfl (fun h2 => ?_) (fun h2 => ?_)
    ·
      exact rx_vret C (pc := 36) d_Home_receive_36 (by unfold sp_Home_receive; first | (simp only [if_neg h1, if_neg h2]; done) | (simp only [if_neg h1, if_neg h2]; rfl))
    ·
      refine rx_aload_n C.1 (pc := 24) d_Home_receive_24 rfl ?_
      refine rx_aload_n C.1 (pc := 25) d_Home_receive_25 rfl ?_
      refine g_Home_46 D b ca C (by first | assumption | (constructor <;> omega) | omega | decide) (pc := 26) d_Home_receive_26 ?_
      refine rx_aload_n C.1 (pc := 29) d_Home_receive_29 rfl ?_
      refine g_Home_49 D b ca C (by first | assumption | (constructor <;> omega) | omega | decide) (pc := 30) d_Home_receive_30 ?_
      refine q_Home_52 D b ca C (pc := 33) d_Home_receive_33 (c_Home_takeData l D b ca (by first | assumption | exact rx_iM0 | exact rx_iM1 | (constructor <;> omega))) ⟨Nat.le_of_ble_eq_true rfl, Nat.le_of_ble_eq_true rfl⟩ ⟨Nat.zero_le _, Nat.zero_le _⟩ (Nat.le_of_ble_eq_true rfl) ?_
      exact rx_vret C (pc := 36) d_Home_receive_36 (by unfold sp_Home_receive; first | (simp only [if_neg h1, if_pos h2]; done) | (simp only [if_neg h1, if_pos h2]; rfl))
  ·
    refine rx_aload_n C.1 (pc := 8) d_Home_receive_8 rfl ?_
    refine rx_aload_n C.1 (pc := 9) d_Home_receive_9 rfl ?_
    refine q_Home_42 D b ca C (pc := 10) d_Home_receive_10 (c_Home_takeRequest l D b ca (by first | assumption | exact rx_iM0 | exact rx_iM1 | (constructor <;> omega)) (by first | assumption | exact rx_iM0 | exact rx_iM1 | (constructor <;> omega))) ⟨Nat.le_of_ble_eq_true rfl, Nat.le_of_ble_eq_true rfl⟩ ⟨Nat.zero_le _, Nat.zero_le _⟩ (Nat.le_of_ble_eq_true rfl) ?_
    refine rx_goto C.1 (pc := 13) d_Home_receive_13 (tgt := 36) rfl ?_
    exact rx_vret C (pc := 36) d_Home_receive_36 (by unfold sp_Home_receive; first | (simp only [if_pos h1]; done) | (simp only [if_pos h1]; rfl))

def rv_Fa_isVisited (σ : rMem) (a : Nat) (m : Int32) : Int32 := if (σ ((54 + 4 * a) + 1) m.toNatClampNeg) ≤ (σ 1 2) then 0 else 1
set_option maxHeartbeats 4000000 in
set_option maxRecDepth 100000 in
theorem c_Fa_isVisited (l : Launch) (D : va_G) (b : Nat) (ca : Nat → ClassId) {σ : rMem} {a : Nat} (ha : a < 3) {m : Int32} (hm : rx_iM m) : rx_C l (rx_fin D b ca) y_Fa_isVisited b_Fa_isVisited 2 (some .boolean) (rx_rm 0) [.ref (rg_A (rx_fin D b ca) (54 + 4 * a)), .int m] σ (some (.int (rv_Fa_isVisited σ a m))) σ := by
  refine rx_of (lo := [(0, .ref (rg_A (rx_fin D b ca) (54 + 4 * a))), (1, .int m)]) (by decide) (rx_fin_D D b ca) rfl (Nat.le_of_ble_eq_true rfl) rfl ?_
  intro p e s mm below meth c C
  refine rx_aload_n C.1 (pc := 0) d_Fa_isVisited_0 rfl ?_
  refine g_Fa_18 D b ca C (by first | assumption | (constructor <;> omega) | omega | decide) (pc := 1) d_Fa_isVisited_1 ?_
  refine g_Fa_32 D b ca C (pc := 4) d_Fa_isVisited_4 ?_
  refine rx_aload_n C.1 (pc := 7) d_Fa_isVisited_7 rfl ?_
  refine g_Fa_22 D b ca C (by first | assumption | (constructor <;> omega) | omega | decide) (pc := 8) d_Fa_isVisited_8 ?_
  refine rx_iload_n C.1 (pc := 11) d_Fa_isVisited_11 rfl ?_
  refine rx_iald C (i := ((54 + 4 * a) + 1)) (n := 2) (pc := 12) d_Fa_isVisited_12 (rx_lt (by omega)) (rx_E_fr (a := a) (t := 1) (by assumption) (by omega) _) (by first | assumption | exact rx_in2 (by assumption) | exact rx_v02 | exact rx_v12) ?_
  refine rx_icmp_ge C.1 (pc := 13) d_Fa_isVisited_13 (tgt := 20) rfl (fun h1 => ?_) (fun h1 => ?_)
  ·
    refine rx_iconst C.1 (v := 0) (pc := 20) d_Fa_isVisited_20 (by decide) ?_
    exact rx_zret C (pc := 21) d_Fa_isVisited_21 (Or.inl rfl) (by unfold rv_Fa_isVisited; first | (simp only [if_pos h1]; done) | (simp only [if_pos h1]; rfl)) rfl
  ·
    refine rx_iconst C.1 (v := 1) (pc := 16) d_Fa_isVisited_16 (by decide) ?_
    refine rx_goto C.1 (pc := 17) d_Fa_isVisited_17 (tgt := 21) rfl ?_
    exact rx_zret C (pc := 21) d_Fa_isVisited_21 (Or.inr rfl) (by unfold rv_Fa_isVisited; first | (simp only [if_neg h1]; done) | (simp only [if_neg h1]; rfl)) rfl

def rv_Fa_hasEntry (σ : rMem) (a : Nat) (m : Int32) : Int32 := if (σ ((54 + 4 * a) + 3) m.toNatClampNeg) ≤ (σ 1 2) then 0 else 1
set_option maxHeartbeats 4000000 in
set_option maxRecDepth 100000 in
theorem c_Fa_hasEntry (l : Launch) (D : va_G) (b : Nat) (ca : Nat → ClassId) {σ : rMem} {a : Nat} (ha : a < 3) {m : Int32} (hm : rx_iM m) : rx_C l (rx_fin D b ca) y_Fa_hasEntry b_Fa_hasEntry 2 (some .boolean) (rx_rm 0) [.ref (rg_A (rx_fin D b ca) (54 + 4 * a)), .int m] σ (some (.int (rv_Fa_hasEntry σ a m))) σ := by
  refine rx_of (lo := [(0, .ref (rg_A (rx_fin D b ca) (54 + 4 * a))), (1, .int m)]) (by decide) (rx_fin_D D b ca) rfl (Nat.le_of_ble_eq_true rfl) rfl ?_
  intro p e s mm below meth c C
  refine rx_aload_n C.1 (pc := 0) d_Fa_hasEntry_0 rfl ?_
  refine g_Fa_18 D b ca C (by first | assumption | (constructor <;> omega) | omega | decide) (pc := 1) d_Fa_hasEntry_1 ?_
  refine g_Fa_32 D b ca C (pc := 4) d_Fa_hasEntry_4 ?_
  refine rx_aload_n C.1 (pc := 7) d_Fa_hasEntry_7 rfl ?_
  refine g_Fa_29 D b ca C (by first | assumption | (constructor <;> omega) | omega | decide) (pc := 8) d_Fa_hasEntry_8 ?_
  refine rx_iload_n C.1 (pc := 11) d_Fa_hasEntry_11 rfl ?_
  refine rx_iald C (i := ((54 + 4 * a) + 3)) (n := 2) (pc := 12) d_Fa_hasEntry_12 (rx_lt (by omega)) (rx_E_fr (a := a) (t := 3) (by assumption) (by omega) _) (by first | assumption | exact rx_in2 (by assumption) | exact rx_v02 | exact rx_v12) ?_
  refine rx_icmp_ge C.1 (pc := 13) d_Fa_hasEntry_13 (tgt := 20) rfl (fun h1 => ?_) (fun h1 => ?_)
  ·
    refine rx_iconst C.1 (v := 0) (pc := 20) d_Fa_hasEntry_20 (by decide) ?_
    exact rx_zret C (pc := 21) d_Fa_hasEntry_21 (Or.inl rfl) (by unfold rv_Fa_hasEntry; first | (simp only [if_pos h1]; done) | (simp only [if_pos h1]; rfl)) rfl
  ·
    refine rx_iconst C.1 (v := 1) (pc := 16) d_Fa_hasEntry_16 (by decide) ?_
    refine rx_goto C.1 (pc := 17) d_Fa_hasEntry_17 (tgt := 21) rfl ?_
    exact rx_zret C (pc := 21) d_Fa_hasEntry_21 (Or.inr rfl) (by unfold rv_Fa_hasEntry; first | (simp only [if_neg h1]; done) | (simp only [if_neg h1]; rfl)) rfl

def rv_Fa_takesPlace (σ : rMem) (a : Nat) (m : Int32) : Int32 := if (rv_Fa_isVisited σ a m) = 0 then (if (rv_Fa_hasEntry σ a m) = 0 then 0 else 1) else 1
set_option maxHeartbeats 4000000 in
set_option maxRecDepth 100000 in
theorem c_Fa_takesPlace (l : Launch) (D : va_G) (b : Nat) (ca : Nat → ClassId) {σ : rMem} {a : Nat} (ha : a < 3) {m : Int32} (hm : rx_iM m) : rx_C l (rx_fin D b ca) y_Fa_takesPlace b_Fa_takesPlace 2 (some .boolean) (rx_rm 1) [.ref (rg_A (rx_fin D b ca) (54 + 4 * a)), .int m] σ (some (.int (rv_Fa_takesPlace σ a m))) σ := by
  refine rx_of (lo := [(0, .ref (rg_A (rx_fin D b ca) (54 + 4 * a))), (1, .int m)]) (by decide) (rx_fin_D D b ca) rfl (Nat.le_of_ble_eq_true rfl) rfl ?_
  intro p e s mm below meth c C
  refine rx_aload_n C.1 (pc := 0) d_Fa_takesPlace_0 rfl ?_
  refine rx_iload_n C.1 (pc := 1) d_Fa_takesPlace_1 rfl ?_
  refine q_Fa_37 D b ca C (by first | assumption | (constructor <;> omega) | omega | decide) (pc := 2) d_Fa_takesPlace_2 (c_Fa_isVisited l D b ca (by first | assumption | (constructor <;> omega) | omega | decide) (by first | assumption | exact rx_iM0 | exact rx_iM1 | (constructor <;> omega))) ⟨Nat.le_of_ble_eq_true rfl, Nat.le_of_ble_eq_true rfl⟩ ⟨Nat.zero_le _, Nat.zero_le _⟩ (Nat.le_of_ble_eq_true rfl) ?_
  refine rx_if_ne C.1 (pc := 5) d_Fa_takesPlace_5 (tgt := 16) rfl (fun h1 => ?_) (fun h1 => ?_)
  ·
    refine rx_iconst C.1 (v := 1) (pc := 16) d_Fa_takesPlace_16 (by decide) ?_
    refine rx_goto C.1 (pc := 17) d_Fa_takesPlace_17 (tgt := 21) rfl ?_
    exact rx_zret C (pc := 21) d_Fa_takesPlace_21 (Or.inr rfl) (by unfold rv_Fa_takesPlace; first | (simp only [if_neg h1]; done) | (simp only [if_neg h1]; rfl)) rfl
  ·
    refine rx_aload_n C.1 (pc := 8) d_Fa_takesPlace_8 rfl ?_
    refine rx_iload_n C.1 (pc := 9) d_Fa_takesPlace_9 rfl ?_
    refine q_Fa_41 D b ca C (by first | assumption | (constructor <;> omega) | omega | decide) (pc := 10) d_Fa_takesPlace_10 (c_Fa_hasEntry l D b ca (by first | assumption | (constructor <;> omega) | omega | decide) (by first | assumption | exact rx_iM0 | exact rx_iM1 | (constructor <;> omega))) ⟨Nat.le_of_ble_eq_true rfl, Nat.le_of_ble_eq_true rfl⟩ ⟨Nat.zero_le _, Nat.zero_le _⟩ (Nat.le_of_ble_eq_true rfl) ?_
    refine rx_if_eq C.1 (pc := 13) d_Fa_takesPlace_13 (tgt := 20) rfl (fun h2 => ?_) (fun h2 => ?_)
    ·
      refine rx_iconst C.1 (v := 0) (pc := 20) d_Fa_takesPlace_20 (by decide) ?_
      exact rx_zret C (pc := 21) d_Fa_takesPlace_21 (Or.inl rfl) (by unfold rv_Fa_takesPlace; first | (simp only [if_pos h1, if_pos h2]; done) | (simp only [if_pos h1, if_pos h2]; rfl)) rfl
    ·
      refine rx_iconst C.1 (v := 1) (pc := 16) d_Fa_takesPlace_16 (by decide) ?_
      refine rx_goto C.1 (pc := 17) d_Fa_takesPlace_17 (tgt := 21) rfl ?_
      exact rx_zret C (pc := 21) d_Fa_takesPlace_21 (Or.inr rfl) (by unfold rv_Fa_takesPlace; first | (simp only [if_pos h1, if_neg h2]; done) | (simp only [if_pos h1, if_neg h2]; rfl)) rfl

def rv_Fa_isCrowded (σ : rMem) (a : Nat) : Int32 := if (rv_Fa_takesPlace σ a 0) = 0 then (if (rv_Fa_takesPlace σ a 1) = 0 then (if 0 < (σ (54 + 4 * a) 1) then 0 else 1) else (if 1 < (σ (54 + 4 * a) 1) then 0 else 1)) else (if (rv_Fa_takesPlace σ a 1) = 0 then (if 1 < (σ (54 + 4 * a) 1) then 0 else 1) else (if 2 < (σ (54 + 4 * a) 1) then 0 else 1))
set_option maxHeartbeats 4000000 in
set_option maxRecDepth 100000 in
theorem c_Fa_isCrowded (l : Launch) (D : va_G) (b : Nat) (ca : Nat → ClassId) {σ : rMem} {a : Nat} (ha : a < 3) : rx_C l (rx_fin D b ca) y_Fa_isCrowded b_Fa_isCrowded 3 (some .boolean) (rx_rm 2) [.ref (rg_A (rx_fin D b ca) (54 + 4 * a))] σ (some (.int (rv_Fa_isCrowded σ a))) σ := by
  refine rx_of (lo := [(0, .ref (rg_A (rx_fin D b ca) (54 + 4 * a)))]) (by decide) (rx_fin_D D b ca) rfl (Nat.le_of_ble_eq_true rfl) rfl ?_
  intro p e s mm below meth c C
  refine rx_iconst C.1 (v := 0) (pc := 0) d_Fa_isCrowded_0 (by decide) ?_
  refine rx_istore_n C.1 (pc := 1) d_Fa_isCrowded_1 (by decide) ?_
  refine rx_iconst C.1 (v := 0) (pc := 2) d_Fa_isCrowded_2 (by decide) ?_
  refine rx_istore_n C.1 (pc := 3) d_Fa_isCrowded_3 (by decide) ?_
  refine rx_iload_n C.1 (pc := 4) d_Fa_isCrowded_4 rfl ?_
  refine rx_iconst C.1 (v := 2) (pc := 5) d_Fa_isCrowded_5 (by decide) ?_
  refine rx_icmp_ge C.1 (pc := 6) d_Fa_isCrowded_6 (tgt := 26) rfl (fun h9 => absurd h9 (by decide)) (fun _ => ?_)
  refine rx_aload_n C.1 (pc := 9) d_Fa_isCrowded_9 rfl ?_
  refine rx_iload_n C.1 (pc := 10) d_Fa_isCrowded_10 rfl ?_
  refine q_Fa_44 D b ca C (by first | assumption | (constructor <;> omega) | omega | decide) (pc := 11) d_Fa_isCrowded_11 (c_Fa_takesPlace l D b ca (by first | assumption | (constructor <;> omega) | omega | decide) (by first | assumption | exact rx_iM0 | exact rx_iM1 | (constructor <;> omega))) ⟨Nat.le_of_ble_eq_true rfl, Nat.le_of_ble_eq_true rfl⟩ ⟨Nat.zero_le _, Nat.zero_le _⟩ (Nat.le_of_ble_eq_true rfl) ?_
  refine rx_if_eq C.1 (pc := 14) d_Fa_isCrowded_14 (tgt := 20) rfl (fun h1 => ?_) (fun h1 => ?_)
  ·
    refine rx_iinc C.1 (v := 1) (pc := 20) d_Fa_isCrowded_20 rfl (by decide) (by decide) ?_
    refine rx_goto C.1 (pc := 23) d_Fa_isCrowded_23 (tgt := 4) rfl ?_
    refine rx_iload_n C.1 (pc := 4) d_Fa_isCrowded_4 rfl ?_
    refine rx_iconst C.1 (v := 2) (pc := 5) d_Fa_isCrowded_5 (by decide) ?_
    refine rx_icmp_ge C.1 (pc := 6) d_Fa_isCrowded_6 (tgt := 26) rfl (fun h9 => absurd h9 (by decide)) (fun _ => ?_)
    refine rx_aload_n C.1 (pc := 9) d_Fa_isCrowded_9 rfl ?_
    refine rx_iload_n C.1 (pc := 10) d_Fa_isCrowded_10 rfl ?_
    refine q_Fa_44 D b ca C (by first | assumption | (constructor <;> omega) | omega | decide) (pc := 11) d_Fa_isCrowded_11 (c_Fa_takesPlace l D b ca (by first | assumption | (constructor <;> omega) | omega | decide) (by first | assumption | exact rx_iM0 | exact rx_iM1 | (constructor <;> omega))) ⟨Nat.le_of_ble_eq_true rfl, Nat.le_of_ble_eq_true rfl⟩ ⟨Nat.zero_le _, Nat.zero_le _⟩ (Nat.le_of_ble_eq_true rfl) ?_
    refine rx_if_eq C.1 (pc := 14) d_Fa_isCrowded_14 (tgt := 20) rfl (fun h2 => ?_) (fun h2 => ?_)
    ·
      refine rx_iinc C.1 (v := 2) (pc := 20) d_Fa_isCrowded_20 rfl (by decide) (by decide) ?_
      refine rx_goto C.1 (pc := 23) d_Fa_isCrowded_23 (tgt := 4) rfl ?_
      refine rx_iload_n C.1 (pc := 4) d_Fa_isCrowded_4 rfl ?_
      refine rx_iconst C.1 (v := 2) (pc := 5) d_Fa_isCrowded_5 (by decide) ?_
      refine rx_icmp_ge C.1 (pc := 6) d_Fa_isCrowded_6 (tgt := 26) rfl (fun _ => ?_) (fun h9 => absurd (by decide) h9) 
      refine rx_iload_n C.1 (pc := 26) d_Fa_isCrowded_26 rfl ?_
      refine rx_aload_n C.1 (pc := 27) d_Fa_isCrowded_27 rfl ?_
      refine g_Fa_15 D b ca C (by first | assumption | (constructor <;> omega) | omega | decide) (pc := 28) d_Fa_isCrowded_28 ?_
      refine rx_icmp_lt C.1 (pc := 31) d_Fa_isCrowded_31 (tgt := 38) rfl (fun h3 => ?_) (fun h3 => ?_)
      ·
        refine rx_iconst C.1 (v := 0) (pc := 38) d_Fa_isCrowded_38 (by decide) ?_
        exact rx_zret C (pc := 39) d_Fa_isCrowded_39 (Or.inl rfl) (by unfold rv_Fa_isCrowded; first | (simp only [if_pos h1, if_pos h2, if_pos h3]; done) | (simp only [if_pos h1, if_pos h2, if_pos h3]; rfl)) rfl
      ·
        refine rx_iconst C.1 (v := 1) (pc := 34) d_Fa_isCrowded_34 (by decide) ?_
        refine rx_goto C.1 (pc := 35) d_Fa_isCrowded_35 (tgt := 39) rfl ?_
        exact rx_zret C (pc := 39) d_Fa_isCrowded_39 (Or.inr rfl) (by unfold rv_Fa_isCrowded; first | (simp only [if_pos h1, if_pos h2, if_neg h3]; done) | (simp only [if_pos h1, if_pos h2, if_neg h3]; rfl)) rfl
    ·
      refine rx_iinc C.1 (v := 1) (pc := 17) d_Fa_isCrowded_17 rfl (by decide) (by decide) ?_
      refine rx_iinc C.1 (v := 2) (pc := 20) d_Fa_isCrowded_20 rfl (by decide) (by decide) ?_
      refine rx_goto C.1 (pc := 23) d_Fa_isCrowded_23 (tgt := 4) rfl ?_
      refine rx_iload_n C.1 (pc := 4) d_Fa_isCrowded_4 rfl ?_
      refine rx_iconst C.1 (v := 2) (pc := 5) d_Fa_isCrowded_5 (by decide) ?_
      refine rx_icmp_ge C.1 (pc := 6) d_Fa_isCrowded_6 (tgt := 26) rfl (fun _ => ?_) (fun h9 => absurd (by decide) h9) 
      refine rx_iload_n C.1 (pc := 26) d_Fa_isCrowded_26 rfl ?_
      refine rx_aload_n C.1 (pc := 27) d_Fa_isCrowded_27 rfl ?_
      refine g_Fa_15 D b ca C (by first | assumption | (constructor <;> omega) | omega | decide) (pc := 28) d_Fa_isCrowded_28 ?_
      refine rx_icmp_lt C.1 (pc := 31) d_Fa_isCrowded_31 (tgt := 38) rfl (fun h4 => ?_) (fun h4 => ?_)
      ·
        refine rx_iconst C.1 (v := 0) (pc := 38) d_Fa_isCrowded_38 (by decide) ?_
        exact rx_zret C (pc := 39) d_Fa_isCrowded_39 (Or.inl rfl) (by unfold rv_Fa_isCrowded; first | (simp only [if_pos h1, if_neg h2, if_pos h4]; done) | (simp only [if_pos h1, if_neg h2, if_pos h4]; rfl)) rfl
      ·
        refine rx_iconst C.1 (v := 1) (pc := 34) d_Fa_isCrowded_34 (by decide) ?_
        refine rx_goto C.1 (pc := 35) d_Fa_isCrowded_35 (tgt := 39) rfl ?_
        exact rx_zret C (pc := 39) d_Fa_isCrowded_39 (Or.inr rfl) (by unfold rv_Fa_isCrowded; first | (simp only [if_pos h1, if_neg h2, if_neg h4]; done) | (simp only [if_pos h1, if_neg h2, if_neg h4]; rfl)) rfl
  ·
    refine rx_iinc C.1 (v := 1) (pc := 17) d_Fa_isCrowded_17 rfl (by decide) (by decide) ?_
    refine rx_iinc C.1 (v := 1) (pc := 20) d_Fa_isCrowded_20 rfl (by decide) (by decide) ?_
    refine rx_goto C.1 (pc := 23) d_Fa_isCrowded_23 (tgt := 4) rfl ?_
    refine rx_iload_n C.1 (pc := 4) d_Fa_isCrowded_4 rfl ?_
    refine rx_iconst C.1 (v := 2) (pc := 5) d_Fa_isCrowded_5 (by decide) ?_
    refine rx_icmp_ge C.1 (pc := 6) d_Fa_isCrowded_6 (tgt := 26) rfl (fun h9 => absurd h9 (by decide)) (fun _ => ?_)
    refine rx_aload_n C.1 (pc := 9) d_Fa_isCrowded_9 rfl ?_
    refine rx_iload_n C.1 (pc := 10) d_Fa_isCrowded_10 rfl ?_
    refine q_Fa_44 D b ca C (by first | assumption | (constructor <;> omega) | omega | decide) (pc := 11) d_Fa_isCrowded_11 (c_Fa_takesPlace l D b ca (by first | assumption | (constructor <;> omega) | omega | decide) (by first | assumption | exact rx_iM0 | exact rx_iM1 | (constructor <;> omega))) ⟨Nat.le_of_ble_eq_true rfl, Nat.le_of_ble_eq_true rfl⟩ ⟨Nat.zero_le _, Nat.zero_le _⟩ (Nat.le_of_ble_eq_true rfl) ?_
    refine rx_if_eq C.1 (pc := 14) d_Fa_isCrowded_14 (tgt := 20) rfl (fun h5 => ?_) (fun h5 => ?_)
    ·
      refine rx_iinc C.1 (v := 2) (pc := 20) d_Fa_isCrowded_20 rfl (by decide) (by decide) ?_
      refine rx_goto C.1 (pc := 23) d_Fa_isCrowded_23 (tgt := 4) rfl ?_
      refine rx_iload_n C.1 (pc := 4) d_Fa_isCrowded_4 rfl ?_
      refine rx_iconst C.1 (v := 2) (pc := 5) d_Fa_isCrowded_5 (by decide) ?_
      refine rx_icmp_ge C.1 (pc := 6) d_Fa_isCrowded_6 (tgt := 26) rfl (fun _ => ?_) (fun h9 => absurd (by decide) h9) 
      refine rx_iload_n C.1 (pc := 26) d_Fa_isCrowded_26 rfl ?_
      refine rx_aload_n C.1 (pc := 27) d_Fa_isCrowded_27 rfl ?_
      refine g_Fa_15 D b ca C (by first | assumption | (constructor <;> omega) | omega | decide) (pc := 28) d_Fa_isCrowded_28 ?_
      refine rx_icmp_lt C.1 (pc := 31) d_Fa_isCrowded_31 (tgt := 38) rfl (fun h6 => ?_) (fun h6 => ?_)
      ·
        refine rx_iconst C.1 (v := 0) (pc := 38) d_Fa_isCrowded_38 (by decide) ?_
        exact rx_zret C (pc := 39) d_Fa_isCrowded_39 (Or.inl rfl) (by unfold rv_Fa_isCrowded; first | (simp only [if_neg h1, if_pos h5, if_pos h6]; done) | (simp only [if_neg h1, if_pos h5, if_pos h6]; rfl)) rfl
      ·
        refine rx_iconst C.1 (v := 1) (pc := 34) d_Fa_isCrowded_34 (by decide) ?_
        refine rx_goto C.1 (pc := 35) d_Fa_isCrowded_35 (tgt := 39) rfl ?_
        exact rx_zret C (pc := 39) d_Fa_isCrowded_39 (Or.inr rfl) (by unfold rv_Fa_isCrowded; first | (simp only [if_neg h1, if_pos h5, if_neg h6]; done) | (simp only [if_neg h1, if_pos h5, if_neg h6]; rfl)) rfl
    ·
      refine rx_iinc C.1 (v := 2) (pc := 17) d_Fa_isCrowded_17 rfl (by decide) (by decide) ?_
      refine rx_iinc C.1 (v := 2) (pc := 20) d_Fa_isCrowded_20 rfl (by decide) (by decide) ?_
      refine rx_goto C.1 (pc := 23) d_Fa_isCrowded_23 (tgt := 4) rfl ?_
      refine rx_iload_n C.1 (pc := 4) d_Fa_isCrowded_4 rfl ?_
      refine rx_iconst C.1 (v := 2) (pc := 5) d_Fa_isCrowded_5 (by decide) ?_
      refine rx_icmp_ge C.1 (pc := 6) d_Fa_isCrowded_6 (tgt := 26) rfl (fun _ => ?_) (fun h9 => absurd (by decide) h9) 
      refine rx_iload_n C.1 (pc := 26) d_Fa_isCrowded_26 rfl ?_
      refine rx_aload_n C.1 (pc := 27) d_Fa_isCrowded_27 rfl ?_
      refine g_Fa_15 D b ca C (by first | assumption | (constructor <;> omega) | omega | decide) (pc := 28) d_Fa_isCrowded_28 ?_
      refine rx_icmp_lt C.1 (pc := 31) d_Fa_isCrowded_31 (tgt := 38) rfl (fun h7 => ?_) (fun h7 => ?_)
      ·
        refine rx_iconst C.1 (v := 0) (pc := 38) d_Fa_isCrowded_38 (by decide) ?_
        exact rx_zret C (pc := 39) d_Fa_isCrowded_39 (Or.inl rfl) (by unfold rv_Fa_isCrowded; first | (simp only [if_neg h1, if_neg h5, if_pos h7]; done) | (simp only [if_neg h1, if_neg h5, if_pos h7]; rfl)) rfl
      ·
        refine rx_iconst C.1 (v := 1) (pc := 34) d_Fa_isCrowded_34 (by decide) ?_
        refine rx_goto C.1 (pc := 35) d_Fa_isCrowded_35 (tgt := 39) rfl ?_
        exact rx_zret C (pc := 39) d_Fa_isCrowded_39 (Or.inr rfl) (by unfold rv_Fa_isCrowded; first | (simp only [if_neg h1, if_neg h5, if_neg h7]; done) | (simp only [if_neg h1, if_neg h5, if_neg h7]; rfl)) rfl

def sp_Fa_takeRequest (σ : rMem) (a : Nat) (r : Nat) : rMem := if (σ r 5) = (σ (54 + 4 * a) 0) then (if (rv_Fa_takesPlace σ a (σ r 3)) = 0 then (if (rv_Fa_isCrowded σ a) = 0 then (let m4 := rx_wr σ ((54 + 4 * a) + 2) (σ r 3).toNatClampNeg (σ r 4); let m5 := rx_wr m4 ((54 + 4 * a) + 3) (σ r 3).toNatClampNeg ((m4 1 2) + 8); let m6 := sp_Wire_sendOn m5 r 0 (-1); m6) else (let m7 := (sp_Wire_sendInNetwork σ (σ (54 + 4 * a) 0) 3 (σ r 3) (σ r 4)).1; let m8 := rx_wr m7 ((sp_Wire_sendInNetwork σ (σ (54 + 4 * a) 0) 3 (σ r 3) (σ r 4)).2) 5 (m7 (54 + 4 * a) 0); let m9 := rx_wr m8 ((sp_Wire_sendInNetwork σ (σ (54 + 4 * a) 0) 3 (σ r 3) (σ r 4)).2) 6 66; m9)) else (let m1 := rx_wr σ ((54 + 4 * a) + 2) (σ r 3).toNatClampNeg (σ r 4); let m2 := rx_wr m1 ((54 + 4 * a) + 3) (σ r 3).toNatClampNeg ((m1 1 2) + 8); let m3 := sp_Wire_sendOn m2 r 0 (-1); m3)) else σ
set_option maxHeartbeats 4000000 in
set_option maxRecDepth 100000 in
theorem c_Fa_takeRequest (l : Launch) (D : va_G) (b : Nat) (ca : Nat → ClassId) {σ : rMem} {a : Nat} (ha : a < 3) {r : Nat} (hr : 3 ≤ r ∧ r < 45) (hm : rx_iM (σ r 3)) : rx_C l (rx_fin D b ca) y_Fa_takeRequest b_Fa_takeRequest 4 none (rx_rm 4) [.ref (rg_A (rx_fin D b ca) (54 + 4 * a)), .ref (rg_A (rx_fin D b ca) r)] σ none (sp_Fa_takeRequest σ a r) := by
  refine rx_of (lo := [(0, .ref (rg_A (rx_fin D b ca) (54 + 4 * a))), (1, .ref (rg_A (rx_fin D b ca) r))]) (by decide) (rx_fin_D D b ca) rfl (Nat.le_of_ble_eq_true rfl) rfl ?_
  intro p e s mm below meth c C
  refine rx_aload_n C.1 (pc := 0) d_Fa_takeRequest_0 rfl ?_
  refine g_Fa_59 D b ca C (by first | assumption | (constructor <;> omega) | omega | decide) (pc := 1) d_Fa_takeRequest_1 ?_
  refine rx_istore_n C.1 (pc := 4) d_Fa_takeRequest_4 (by decide) ?_
  refine rx_aload_n C.1 (pc := 5) d_Fa_takeRequest_5 rfl ?_
  refine g_Fa_69 D b ca C (by first | assumption | (constructor <;> omega) | omega | decide) (pc := 6) d_Fa_takeRequest_6 ?_
  refine rx_aload_n C.1 (pc := 9) d_Fa_takeRequest_9 rfl ?_
  refine g_Fa_9 D b ca C (by first | assumption | (constructor <;> omega) | omega | decide) (pc := 10) d_Fa_takeRequest_10 ?_
  refine rx_icmp_eq C.1 (pc := 13) d_Fa_takeRequest_13 (tgt := 17) rfl (fun h1 => ?_) (fun h1 => ?_)
  ·
    refine rx_aload_n C.1 (pc := 17) d_Fa_takeRequest_17 rfl ?_
    refine rx_iload_n C.1 (pc := 18) d_Fa_takeRequest_18 rfl ?_
    refine q_Fa_44 D b ca C (by first | assumption | (constructor <;> omega) | omega | decide) (pc := 19) d_Fa_takeRequest_19 (c_Fa_takesPlace l D b ca (by first | assumption | (constructor <;> omega) | omega | decide) (by first | assumption | exact rx_iM0 | exact rx_iM1 | (constructor <;> omega))) ⟨Nat.le_of_ble_eq_true rfl, Nat.le_of_ble_eq_true rfl⟩ ⟨Nat.zero_le _, Nat.zero_le _⟩ (Nat.le_of_ble_eq_true rfl) ?_
    refine rx_if_ne C.1 (pc := 22) d_Fa_takeRequest_22 (tgt := 65) rfl (fun h2 => ?_) (fun h2 => ?_)
    ·
      refine rx_aload_n C.1 (pc := 65) d_Fa_takeRequest_65 rfl ?_
      refine g_Fa_26 D b ca C (by first | assumption | (constructor <;> omega) | omega | decide) (pc := 66) d_Fa_takeRequest_66 ?_
      refine rx_iload_n C.1 (pc := 69) d_Fa_takeRequest_69 rfl ?_
      refine rx_aload_n C.1 (pc := 70) d_Fa_takeRequest_70 rfl ?_
      refine g_Fa_62 D b ca C (by first | assumption | (constructor <;> omega) | omega | decide) (pc := 71) d_Fa_takeRequest_71 ?_
      refine rx_iast C (i := ((54 + 4 * a) + 2)) (n := 2) (pc := 74) d_Fa_takeRequest_74 (rx_lt (by omega)) (fun _ => (rx_E_fr (a := a) (t := 2) (by assumption) (by omega) _)) (by first | assumption | exact rx_in2 (by assumption) | exact rx_v02 | exact rx_v12) (rx_SI_wr (by omega)) ?_
      refine rx_aload_n C.1 (pc := 75) d_Fa_takeRequest_75 rfl ?_
      refine g_Fa_29 D b ca C (by first | assumption | (constructor <;> omega) | omega | decide) (pc := 76) d_Fa_takeRequest_76 ?_
      refine rx_iload_n C.1 (pc := 79) d_Fa_takeRequest_79 rfl ?_
      refine rx_aload_n C.1 (pc := 80) d_Fa_takeRequest_80 rfl ?_
      refine g_Fa_18 D b ca C (by first | assumption | (constructor <;> omega) | omega | decide) (pc := 81) d_Fa_takeRequest_81 ?_
      refine g_Fa_32 D b ca C (pc := 84) d_Fa_takeRequest_84 ?_
      refine rx_bipush C.1 (v := 8) (pc := 87) d_Fa_takeRequest_87 (by decide) ?_
      refine rx_iadd C.1 (pc := 89) d_Fa_takeRequest_89 ?_
      refine rx_iast C (i := ((54 + 4 * a) + 3)) (n := 2) (pc := 90) d_Fa_takeRequest_90 (rx_lt (by omega)) (fun _ => (rx_E_fr (a := a) (t := 3) (by assumption) (by omega) _)) (by first | assumption | exact rx_in2 (by assumption) | exact rx_v02 | exact rx_v12) (rx_SI_wr (by omega)) ?_
      refine rx_aload_n C.1 (pc := 91) d_Fa_takeRequest_91 rfl ?_
      refine g_Fa_18 D b ca C (by first | assumption | (constructor <;> omega) | omega | decide) (pc := 92) d_Fa_takeRequest_92 ?_
      refine rx_aload_n C.1 (pc := 95) d_Fa_takeRequest_95 rfl ?_
      refine rx_iconst C.1 (v := 0) (pc := 96) d_Fa_takeRequest_96 (by decide) ?_
      refine rx_iconst C.1 (v := (-1)) (pc := 97) d_Fa_takeRequest_97 (by decide) ?_
      refine q_Fa_83 D b ca C (pc := 98) d_Fa_takeRequest_98 (c_Wire_sendOn l D b ca (by first | assumption | exact rx_iM0 | exact rx_iM1 | (constructor <;> omega))) ⟨Nat.le_of_ble_eq_true rfl, Nat.le_of_ble_eq_true rfl⟩ ⟨Nat.zero_le _, Nat.zero_le _⟩ (Nat.le_of_ble_eq_true rfl) ?_
      exact rx_vret C (pc := 101) d_Fa_takeRequest_101 (by unfold sp_Fa_takeRequest; first | (simp only [if_pos h1, if_neg h2]; done) | (simp only [if_pos h1, if_neg h2]; rfl))
    ·
      refine rx_aload_n C.1 (pc := 25) d_Fa_takeRequest_25 rfl ?_
      refine q_Fa_72 D b ca C (by first | assumption | (constructor <;> omega) | omega | decide) (pc := 26) d_Fa_takeRequest_26 (c_Fa_isCrowded l D b ca (by first | assumption | (constructor <;> omega) | omega | decide) ) ⟨Nat.le_of_ble_eq_true rfl, Nat.le_of_ble_eq_true rfl⟩ ⟨Nat.zero_le _, Nat.zero_le _⟩ (Nat.le_of_ble_eq_true rfl) ?_
      refine rx_if_eq C.1 (pc := 29) d_Fa_takeRequest_29 (tgt := 65) rfl (fun h3 => ?_) (fun h3 => ?_)
      ·
        refine rx_aload_n C.1 (pc := 65) d_Fa_takeRequest_65 rfl ?_
        refine g_Fa_26 D b ca C (by first | assumption | (constructor <;> omega) | omega | decide) (pc := 66) d_Fa_takeRequest_66 ?_
        refine rx_iload_n C.1 (pc := 69) d_Fa_takeRequest_69 rfl ?_
        refine rx_aload_n C.1 (pc := 70) d_Fa_takeRequest_70 rfl ?_
        refine g_Fa_62 D b ca C (by first | assumption | (constructor <;> omega) | omega | decide) (pc := 71) d_Fa_takeRequest_71 ?_
        refine rx_iast C (i := ((54 + 4 * a) + 2)) (n := 2) (pc := 74) d_Fa_takeRequest_74 (rx_lt (by omega)) (fun _ => (rx_E_fr (a := a) (t := 2) (by assumption) (by omega) _)) (by first | assumption | exact rx_in2 (by assumption) | exact rx_v02 | exact rx_v12) (rx_SI_wr (by omega)) ?_
        refine rx_aload_n C.1 (pc := 75) d_Fa_takeRequest_75 rfl ?_
        refine g_Fa_29 D b ca C (by first | assumption | (constructor <;> omega) | omega | decide) (pc := 76) d_Fa_takeRequest_76 ?_
        refine rx_iload_n C.1 (pc := 79) d_Fa_takeRequest_79 rfl ?_
        refine rx_aload_n C.1 (pc := 80) d_Fa_takeRequest_80 rfl ?_
        refine g_Fa_18 D b ca C (by first | assumption | (constructor <;> omega) | omega | decide) (pc := 81) d_Fa_takeRequest_81 ?_
        refine g_Fa_32 D b ca C (pc := 84) d_Fa_takeRequest_84 ?_
        refine rx_bipush C.1 (v := 8) (pc := 87) d_Fa_takeRequest_87 (by decide) ?_
        refine rx_iadd C.1 (pc := 89) d_Fa_takeRequest_89 ?_
        refine rx_iast C (i := ((54 + 4 * a) + 3)) (n := 2) (pc := 90) d_Fa_takeRequest_90 (rx_lt (by omega)) (fun _ => (rx_E_fr (a := a) (t := 3) (by assumption) (by omega) _)) (by first | assumption | exact rx_in2 (by assumption) | exact rx_v02 | exact rx_v12) (rx_SI_wr (by omega)) ?_
        refine rx_aload_n C.1 (pc := 91) d_Fa_takeRequest_91 rfl ?_
        refine g_Fa_18 D b ca C (by first | assumption | (constructor <;> omega) | omega | decide) (pc := 92) d_Fa_takeRequest_92 ?_
        refine rx_aload_n C.1 (pc := 95) d_Fa_takeRequest_95 rfl ?_
        refine rx_iconst C.1 (v := 0) (pc := 96) d_Fa_takeRequest_96 (by decide) ?_
        refine rx_iconst C.1 (v := (-1)) (pc := 97) d_Fa_takeRequest_97 (by decide) ?_
        refine q_Fa_83 D b ca C (pc := 98) d_Fa_takeRequest_98 (c_Wire_sendOn l D b ca (by first | assumption | exact rx_iM0 | exact rx_iM1 | (constructor <;> omega))) ⟨Nat.le_of_ble_eq_true rfl, Nat.le_of_ble_eq_true rfl⟩ ⟨Nat.zero_le _, Nat.zero_le _⟩ (Nat.le_of_ble_eq_true rfl) ?_
        exact rx_vret C (pc := 101) d_Fa_takeRequest_101 (by unfold sp_Fa_takeRequest; first | (simp only [if_pos h1, if_pos h2, if_pos h3]; done) | (simp only [if_pos h1, if_pos h2, if_pos h3]; rfl))
      ·
        refine rx_aload_n C.1 (pc := 32) d_Fa_takeRequest_32 rfl ?_
        refine g_Fa_18 D b ca C (by first | assumption | (constructor <;> omega) | omega | decide) (pc := 33) d_Fa_takeRequest_33 ?_
        refine rx_aload_n C.1 (pc := 36) d_Fa_takeRequest_36 rfl ?_
        refine g_Fa_9 D b ca C (by first | assumption | (constructor <;> omega) | omega | decide) (pc := 37) d_Fa_takeRequest_37 ?_
        refine rx_iconst C.1 (v := 3) (pc := 40) d_Fa_takeRequest_40 (by decide) ?_
        refine rx_iload_n C.1 (pc := 41) d_Fa_takeRequest_41 rfl ?_
        refine rx_aload_n C.1 (pc := 42) d_Fa_takeRequest_42 rfl ?_
        refine g_Fa_62 D b ca C (by first | assumption | (constructor <;> omega) | omega | decide) (pc := 43) d_Fa_takeRequest_43 ?_
        refine q_Fa_76 D b ca C (pc := 46) d_Fa_takeRequest_46 (c_Wire_sendInNetwork l D b ca ) (fun hI => rq_Wire_sendInNetwork hI) ⟨Nat.le_of_ble_eq_true rfl, Nat.le_of_ble_eq_true rfl⟩ ⟨Nat.zero_le _, Nat.zero_le _⟩ (Nat.le_of_ble_eq_true rfl) (fun hq5 => ?_)
        refine rx_astore_n C.1 (pc := 49) d_Fa_takeRequest_49 (by decide) ?_
        refine rx_aload_n C.1 (pc := 50) d_Fa_takeRequest_50 rfl ?_
        refine rx_aload_n C.1 (pc := 51) d_Fa_takeRequest_51 rfl ?_
        refine g_Fa_9 D b ca C (by first | assumption | (constructor <;> omega) | omega | decide) (pc := 52) d_Fa_takeRequest_52 ?_
        refine p_Fa_69 D b ca C (by first | assumption | (constructor <;> omega) | omega | decide) (pc := 55) d_Fa_takeRequest_55 ?_
        refine rx_aload_n C.1 (pc := 58) d_Fa_takeRequest_58 rfl ?_
        refine rx_bipush C.1 (v := 66) (pc := 59) d_Fa_takeRequest_59 (by decide) ?_
        refine p_Fa_80 D b ca C (by first | assumption | (constructor <;> omega) | omega | decide) (pc := 61) d_Fa_takeRequest_61 ?_
        exact rx_vret C (pc := 64) d_Fa_takeRequest_64 (by unfold sp_Fa_takeRequest; first | (simp only [if_pos h1, if_pos h2, if_neg h3]; done) | (simp only [if_pos h1, if_pos h2, if_neg h3]; rfl))
  ·
    exact rx_vret C (pc := 16) d_Fa_takeRequest_16 (by unfold sp_Fa_takeRequest; first | (simp only [if_neg h1]; done) | (simp only [if_neg h1]; rfl))

def sp_Fa_takeReply (σ : rMem) (a : Nat) (r : Nat) : rMem := if (rv_Fa_hasEntry σ a (σ r 3)) = 0 then σ else (if (σ ((54 + 4 * a) + 2) (σ r 3).toNatClampNeg) = (σ r 4) then (let m1 := rx_wr σ ((54 + 4 * a) + 3) (σ r 3).toNatClampNeg 0; if (m1 r 6) = 0 then (let m3 := rx_wr m1 ((54 + 4 * a) + 1) (σ r 3).toNatClampNeg ((m1 1 2) + (m1 r 7)); let m4 := sp_Wire_sendOn m3 r 5 (m3 (54 + 4 * a) 0); m4) else (let m2 := sp_Wire_sendOn m1 r 5 (m1 (54 + 4 * a) 0); m2)) else σ)
set_option maxHeartbeats 4000000 in
set_option maxRecDepth 100000 in
theorem c_Fa_takeReply (l : Launch) (D : va_G) (b : Nat) (ca : Nat → ClassId) {σ : rMem} {a : Nat} (ha : a < 3) {r : Nat} (hr : 3 ≤ r ∧ r < 45) (hm : rx_iM (σ r 3)) : rx_C l (rx_fin D b ca) y_Fa_takeReply b_Fa_takeReply 3 none (rx_rm 3) [.ref (rg_A (rx_fin D b ca) (54 + 4 * a)), .ref (rg_A (rx_fin D b ca) r)] σ none (sp_Fa_takeReply σ a r) := by
  refine rx_of (lo := [(0, .ref (rg_A (rx_fin D b ca) (54 + 4 * a))), (1, .ref (rg_A (rx_fin D b ca) r))]) (by decide) (rx_fin_D D b ca) rfl (Nat.le_of_ble_eq_true rfl) rfl ?_
  intro p e s mm below meth c C
  refine rx_aload_n C.1 (pc := 0) d_Fa_takeReply_0 rfl ?_
  refine g_Fa_59 D b ca C (by first | assumption | (constructor <;> omega) | omega | decide) (pc := 1) d_Fa_takeReply_1 ?_
  refine rx_istore_n C.1 (pc := 4) d_Fa_takeReply_4 (by decide) ?_
  refine rx_aload_n C.1 (pc := 5) d_Fa_takeReply_5 rfl ?_
  refine rx_iload_n C.1 (pc := 6) d_Fa_takeReply_6 rfl ?_
  refine q_Fa_41 D b ca C (by first | assumption | (constructor <;> omega) | omega | decide) (pc := 7) d_Fa_takeReply_7 (c_Fa_hasEntry l D b ca (by first | assumption | (constructor <;> omega) | omega | decide) (by first | assumption | exact rx_iM0 | exact rx_iM1 | (constructor <;> omega))) ⟨Nat.le_of_ble_eq_true rfl, Nat.le_of_ble_eq_true rfl⟩ ⟨Nat.zero_le _, Nat.zero_le _⟩ (Nat.le_of_ble_eq_true rfl) ?_
  refine rx_if_eq C.1 (pc := 10) d_Fa_takeReply_10 (tgt := 26) rfl (fun h1 => ?_) (fun h1 => ?_)
  ·
    exact rx_vret C (pc := 26) d_Fa_takeReply_26 (by unfold sp_Fa_takeReply; first | (simp only [if_pos h1]; done) | (simp only [if_pos h1]; rfl))
  ·
    refine rx_aload_n C.1 (pc := 13) d_Fa_takeReply_13 rfl ?_
    refine g_Fa_26 D b ca C (by first | assumption | (constructor <;> omega) | omega | decide) (pc := 14) d_Fa_takeReply_14 ?_
    refine rx_iload_n C.1 (pc := 17) d_Fa_takeReply_17 rfl ?_
    refine rx_iald C (i := ((54 + 4 * a) + 2)) (n := 2) (pc := 18) d_Fa_takeReply_18 (rx_lt (by omega)) (rx_E_fr (a := a) (t := 2) (by assumption) (by omega) _) (by first | assumption | exact rx_in2 (by assumption) | exact rx_v02 | exact rx_v12) ?_
    refine rx_aload_n C.1 (pc := 19) d_Fa_takeReply_19 rfl ?_
    refine g_Fa_62 D b ca C (by first | assumption | (constructor <;> omega) | omega | decide) (pc := 20) d_Fa_takeReply_20 ?_
    refine rx_icmp_eq C.1 (pc := 23) d_Fa_takeReply_23 (tgt := 27) rfl (fun h2 => ?_) (fun h2 => ?_)
    ·
      refine rx_aload_n C.1 (pc := 27) d_Fa_takeReply_27 rfl ?_
      refine g_Fa_29 D b ca C (by first | assumption | (constructor <;> omega) | omega | decide) (pc := 28) d_Fa_takeReply_28 ?_
      refine rx_iload_n C.1 (pc := 31) d_Fa_takeReply_31 rfl ?_
      refine rx_iconst C.1 (v := 0) (pc := 32) d_Fa_takeReply_32 (by decide) ?_
      refine rx_iast C (i := ((54 + 4 * a) + 3)) (n := 2) (pc := 33) d_Fa_takeReply_33 (rx_lt (by omega)) (fun _ => (rx_E_fr (a := a) (t := 3) (by assumption) (by omega) _)) (by first | assumption | exact rx_in2 (by assumption) | exact rx_v02 | exact rx_v12) (rx_SI_wr (by omega)) ?_
      refine rx_aload_n C.1 (pc := 34) d_Fa_takeReply_34 rfl ?_
      refine g_Fa_80 D b ca C (by first | assumption | (constructor <;> omega) | omega | decide) (pc := 35) d_Fa_takeReply_35 ?_
      refine rx_if_ne C.1 (pc := 38) d_Fa_takeReply_38 (tgt := 59) rfl (fun h3 => ?_) (fun h3 => ?_)
      ·
        refine rx_aload_n C.1 (pc := 59) d_Fa_takeReply_59 rfl ?_
        refine g_Fa_18 D b ca C (by first | assumption | (constructor <;> omega) | omega | decide) (pc := 60) d_Fa_takeReply_60 ?_
        refine rx_aload_n C.1 (pc := 63) d_Fa_takeReply_63 rfl ?_
        refine rx_iconst C.1 (v := 5) (pc := 64) d_Fa_takeReply_64 (by decide) ?_
        refine rx_aload_n C.1 (pc := 65) d_Fa_takeReply_65 rfl ?_
        refine g_Fa_9 D b ca C (by first | assumption | (constructor <;> omega) | omega | decide) (pc := 66) d_Fa_takeReply_66 ?_
        refine q_Fa_83 D b ca C (pc := 69) d_Fa_takeReply_69 (c_Wire_sendOn l D b ca (by first | assumption | exact rx_iM0 | exact rx_iM1 | (constructor <;> omega))) ⟨Nat.le_of_ble_eq_true rfl, Nat.le_of_ble_eq_true rfl⟩ ⟨Nat.zero_le _, Nat.zero_le _⟩ (Nat.le_of_ble_eq_true rfl) ?_
        exact rx_vret C (pc := 72) d_Fa_takeReply_72 (by unfold sp_Fa_takeReply; first | (simp only [if_neg h1, if_pos h2, if_neg h3]; done) | (simp only [if_neg h1, if_pos h2, if_neg h3]; rfl))
      ·
        refine rx_aload_n C.1 (pc := 41) d_Fa_takeReply_41 rfl ?_
        refine g_Fa_22 D b ca C (by first | assumption | (constructor <;> omega) | omega | decide) (pc := 42) d_Fa_takeReply_42 ?_
        refine rx_iload_n C.1 (pc := 45) d_Fa_takeReply_45 rfl ?_
        refine rx_aload_n C.1 (pc := 46) d_Fa_takeReply_46 rfl ?_
        refine g_Fa_18 D b ca C (by first | assumption | (constructor <;> omega) | omega | decide) (pc := 47) d_Fa_takeReply_47 ?_
        refine g_Fa_32 D b ca C (pc := 50) d_Fa_takeReply_50 ?_
        refine rx_aload_n C.1 (pc := 53) d_Fa_takeReply_53 rfl ?_
        refine g_Fa_87 D b ca C (by first | assumption | (constructor <;> omega) | omega | decide) (pc := 54) d_Fa_takeReply_54 ?_
        refine rx_iadd C.1 (pc := 57) d_Fa_takeReply_57 ?_
        refine rx_iast C (i := ((54 + 4 * a) + 1)) (n := 2) (pc := 58) d_Fa_takeReply_58 (rx_lt (by omega)) (fun _ => (rx_E_fr (a := a) (t := 1) (by assumption) (by omega) _)) (by first | assumption | exact rx_in2 (by assumption) | exact rx_v02 | exact rx_v12) (rx_SI_wr (by omega)) ?_
        refine rx_aload_n C.1 (pc := 59) d_Fa_takeReply_59 rfl ?_
        refine g_Fa_18 D b ca C (by first | assumption | (constructor <;> omega) | omega | decide) (pc := 60) d_Fa_takeReply_60 ?_
        refine rx_aload_n C.1 (pc := 63) d_Fa_takeReply_63 rfl ?_
        refine rx_iconst C.1 (v := 5) (pc := 64) d_Fa_takeReply_64 (by decide) ?_
        refine rx_aload_n C.1 (pc := 65) d_Fa_takeReply_65 rfl ?_
        refine g_Fa_9 D b ca C (by first | assumption | (constructor <;> omega) | omega | decide) (pc := 66) d_Fa_takeReply_66 ?_
        refine q_Fa_83 D b ca C (pc := 69) d_Fa_takeReply_69 (c_Wire_sendOn l D b ca (by first | assumption | exact rx_iM0 | exact rx_iM1 | (constructor <;> omega))) ⟨Nat.le_of_ble_eq_true rfl, Nat.le_of_ble_eq_true rfl⟩ ⟨Nat.zero_le _, Nat.zero_le _⟩ (Nat.le_of_ble_eq_true rfl) ?_
        exact rx_vret C (pc := 72) d_Fa_takeReply_72 (by unfold sp_Fa_takeReply; first | (simp only [if_neg h1, if_pos h2, if_pos h3]; done) | (simp only [if_neg h1, if_pos h2, if_pos h3]; rfl))
    ·
      exact rx_vret C (pc := 26) d_Fa_takeReply_26 (by unfold sp_Fa_takeReply; first | (simp only [if_neg h1, if_neg h2]; done) | (simp only [if_neg h1, if_neg h2]; rfl))

def sp_Fa_takeTunnel (σ : rMem) (a : Nat) (m : Int32) (nu : Int32) : rMem := if (rv_Fa_isVisited σ a m) = 0 then σ else (let m1 := (sp_Wire_sendInNetwork σ (σ (54 + 4 * a) 0) 4 m nu).1; m1)
set_option maxHeartbeats 4000000 in
set_option maxRecDepth 100000 in
theorem c_Fa_takeTunnel (l : Launch) (D : va_G) (b : Nat) (ca : Nat → ClassId) {σ : rMem} {a : Nat} (ha : a < 3) {m : Int32} {nu : Int32} (hm : rx_iM m) : rx_C l (rx_fin D b ca) y_Fa_takeTunnel b_Fa_takeTunnel 3 none (rx_rm 4) [.ref (rg_A (rx_fin D b ca) (54 + 4 * a)), .int m, .int nu] σ none (sp_Fa_takeTunnel σ a m nu) := by
  refine rx_of (lo := [(0, .ref (rg_A (rx_fin D b ca) (54 + 4 * a))), (1, .int m), (2, .int nu)]) (by decide) (rx_fin_D D b ca) rfl (Nat.le_of_ble_eq_true rfl) rfl ?_
  intro p e s mm below meth c C
  refine rx_aload_n C.1 (pc := 0) d_Fa_takeTunnel_0 rfl ?_
  refine rx_iload_n C.1 (pc := 1) d_Fa_takeTunnel_1 rfl ?_
  refine q_Fa_37 D b ca C (by first | assumption | (constructor <;> omega) | omega | decide) (pc := 2) d_Fa_takeTunnel_2 (c_Fa_isVisited l D b ca (by first | assumption | (constructor <;> omega) | omega | decide) (by first | assumption | exact rx_iM0 | exact rx_iM1 | (constructor <;> omega))) ⟨Nat.le_of_ble_eq_true rfl, Nat.le_of_ble_eq_true rfl⟩ ⟨Nat.zero_le _, Nat.zero_le _⟩ (Nat.le_of_ble_eq_true rfl) ?_
  refine rx_if_eq C.1 (pc := 5) d_Fa_takeTunnel_5 (tgt := 23) rfl (fun h1 => ?_) (fun h1 => ?_)
  ·
    exact rx_vret C (pc := 23) d_Fa_takeTunnel_23 (by unfold sp_Fa_takeTunnel; first | (simp only [if_pos h1]; done) | (simp only [if_pos h1]; rfl))
  ·
    refine rx_aload_n C.1 (pc := 8) d_Fa_takeTunnel_8 rfl ?_
    refine g_Fa_18 D b ca C (by first | assumption | (constructor <;> omega) | omega | decide) (pc := 9) d_Fa_takeTunnel_9 ?_
    refine rx_aload_n C.1 (pc := 12) d_Fa_takeTunnel_12 rfl ?_
    refine g_Fa_9 D b ca C (by first | assumption | (constructor <;> omega) | omega | decide) (pc := 13) d_Fa_takeTunnel_13 ?_
    refine rx_iconst C.1 (v := 4) (pc := 16) d_Fa_takeTunnel_16 (by decide) ?_
    refine rx_iload_n C.1 (pc := 17) d_Fa_takeTunnel_17 rfl ?_
    refine rx_iload_n C.1 (pc := 18) d_Fa_takeTunnel_18 rfl ?_
    refine q_Fa_76 D b ca C (pc := 19) d_Fa_takeTunnel_19 (c_Wire_sendInNetwork l D b ca ) (fun hI => rq_Wire_sendInNetwork hI) ⟨Nat.le_of_ble_eq_true rfl, Nat.le_of_ble_eq_true rfl⟩ ⟨Nat.zero_le _, Nat.zero_le _⟩ (Nat.le_of_ble_eq_true rfl) (fun hq2 => ?_)
    refine rx_pop C.1 (pc := 22) d_Fa_takeTunnel_22 rfl ?_
    exact rx_vret C (pc := 23) d_Fa_takeTunnel_23 (by unfold sp_Fa_takeTunnel; first | (simp only [if_neg h1]; done) | (simp only [if_neg h1]; rfl))

def sp_Fa_receive (σ : rMem) (a : Nat) (r : Nat) : rMem := if (σ r 0) = 2 then (let m3 := sp_Fa_takeRequest σ a r; m3) else (if (σ r 0) = 3 then (let m2 := sp_Fa_takeReply σ a r; m2) else (if (σ r 0) = 5 then (let m1 := sp_Fa_takeTunnel σ a (σ r 3) (σ r 4); m1) else σ))
set_option maxHeartbeats 4000000 in
set_option maxRecDepth 100000 in
theorem c_Fa_receive (l : Launch) (D : va_G) (b : Nat) (ca : Nat → ClassId) {σ : rMem} {a : Nat} (ha : a < 3) {r : Nat} (hr : 3 ≤ r ∧ r < 45) (hm : rx_iM (σ r 3)) : rx_C l (rx_fin D b ca) y_Fa_receive b_Fa_receive 2 none (rx_rm 5) [.ref (rg_A (rx_fin D b ca) (54 + 4 * a)), .ref (rg_A (rx_fin D b ca) r)] σ none (sp_Fa_receive σ a r) := by
  refine rx_of (lo := [(0, .ref (rg_A (rx_fin D b ca) (54 + 4 * a))), (1, .ref (rg_A (rx_fin D b ca) r))]) (by decide) (rx_fin_D D b ca) rfl (Nat.le_of_ble_eq_true rfl) rfl ?_
  intro p e s mm below meth c C
  refine rx_aload_n C.1 (pc := 0) d_Fa_receive_0 rfl ?_
  refine g_Fa_47 D b ca C (by first | assumption | (constructor <;> omega) | omega | decide) (pc := 1) d_Fa_receive_1 ?_
  refine rx_iconst C.1 (v := 2) (pc := 4) d_Fa_receive_4 (by decide) ?_
  refine rx_icmp_ne C.1 (pc := 5) d_Fa_receive_5 (tgt := 16) rfl (fun h1 => ?_) (fun h1 => ?_)
  ·
    refine rx_aload_n C.1 (pc := 16) d_Fa_receive_16 rfl ?_
    refine g_Fa_47 D b ca C (by first | assumption | (constructor <;> omega) | omega | decide) (pc := 17) d_Fa_receive_17 ?_
    refine rx_iconst C.1 (v := 3) (pc := 20) d_Fa_receive_20 (by decide) ?_
    refine rx_icmp_ne C.1 (pc := 21) d_Fa_receive_21 (tgt := 32) rfl (fun h2 => ?_) (fun h2 => ?_)
    ·
      refine rx_aload_n C.1 (pc := 32) d_Fa_receive_32 rfl ?_
      refine g_Fa_47 D b ca C (by first | assumption | (constructor <;> omega) | omega | decide) (pc := 33) d_Fa_receive_33 ?_
      refine rx_iconst C.1 (v := 5) (pc := 36) d_Fa_receive_36 (by decide) ?_
      refine rx_icmp_ne C.1 (pc := 37) d_Fa_receive_37 (tgt := 52) rfl (fun h3 => ?_) (fun h3 => ?_)
      ·
        exact rx_vret C (pc := 52) d_Fa_receive_52 (by unfold sp_Fa_receive; first | (simp only [if_neg h1, if_neg h2, if_neg h3]; done) | (simp only [if_neg h1, if_neg h2, if_neg h3]; rfl))
      ·
        refine rx_aload_n C.1 (pc := 40) d_Fa_receive_40 rfl ?_
        refine rx_aload_n C.1 (pc := 41) d_Fa_receive_41 rfl ?_
        refine g_Fa_59 D b ca C (by first | assumption | (constructor <;> omega) | omega | decide) (pc := 42) d_Fa_receive_42 ?_
        refine rx_aload_n C.1 (pc := 45) d_Fa_receive_45 rfl ?_
        refine g_Fa_62 D b ca C (by first | assumption | (constructor <;> omega) | omega | decide) (pc := 46) d_Fa_receive_46 ?_
        refine q_Fa_65 D b ca C (by first | assumption | (constructor <;> omega) | omega | decide) (pc := 49) d_Fa_receive_49 (c_Fa_takeTunnel l D b ca (by first | assumption | (constructor <;> omega) | omega | decide) (by first | assumption | exact rx_iM0 | exact rx_iM1 | (constructor <;> omega))) ⟨Nat.le_of_ble_eq_true rfl, Nat.le_of_ble_eq_true rfl⟩ ⟨Nat.zero_le _, Nat.zero_le _⟩ (Nat.le_of_ble_eq_true rfl) ?_
        exact rx_vret C (pc := 52) d_Fa_receive_52 (by unfold sp_Fa_receive; first | (simp only [if_neg h1, if_neg h2, if_pos h3]; done) | (simp only [if_neg h1, if_neg h2, if_pos h3]; rfl))
    ·
      refine rx_aload_n C.1 (pc := 24) d_Fa_receive_24 rfl ?_
      refine rx_aload_n C.1 (pc := 25) d_Fa_receive_25 rfl ?_
      refine q_Fa_56 D b ca C (by first | assumption | (constructor <;> omega) | omega | decide) (pc := 26) d_Fa_receive_26 (c_Fa_takeReply l D b ca (by first | assumption | (constructor <;> omega) | omega | decide) (by first | assumption | exact rx_iM0 | exact rx_iM1 | (constructor <;> omega)) (by first | assumption | exact rx_iM0 | exact rx_iM1 | (constructor <;> omega))) ⟨Nat.le_of_ble_eq_true rfl, Nat.le_of_ble_eq_true rfl⟩ ⟨Nat.zero_le _, Nat.zero_le _⟩ (Nat.le_of_ble_eq_true rfl) ?_
      refine rx_goto C.1 (pc := 29) d_Fa_receive_29 (tgt := 52) rfl ?_
      exact rx_vret C (pc := 52) d_Fa_receive_52 (by unfold sp_Fa_receive; first | (simp only [if_neg h1, if_pos h2]; done) | (simp only [if_neg h1, if_pos h2]; rfl))
  ·
    refine rx_aload_n C.1 (pc := 8) d_Fa_receive_8 rfl ?_
    refine rx_aload_n C.1 (pc := 9) d_Fa_receive_9 rfl ?_
    refine q_Fa_52 D b ca C (by first | assumption | (constructor <;> omega) | omega | decide) (pc := 10) d_Fa_receive_10 (c_Fa_takeRequest l D b ca (by first | assumption | (constructor <;> omega) | omega | decide) (by first | assumption | exact rx_iM0 | exact rx_iM1 | (constructor <;> omega)) (by first | assumption | exact rx_iM0 | exact rx_iM1 | (constructor <;> omega))) ⟨Nat.le_of_ble_eq_true rfl, Nat.le_of_ble_eq_true rfl⟩ ⟨Nat.zero_le _, Nat.zero_le _⟩ (Nat.le_of_ble_eq_true rfl) ?_
    refine rx_goto C.1 (pc := 13) d_Fa_receive_13 (tgt := 52) rfl ?_
    exact rx_vret C (pc := 52) d_Fa_receive_52 (by unfold sp_Fa_receive; first | (simp only [if_pos h1]; done) | (simp only [if_pos h1]; rfl))

set_option maxHeartbeats 4000000 in
set_option maxRecDepth 100000 in
theorem it_Wire_remove (l : Launch) (D : va_G) (b : Nat) (ca : Nat → ClassId) {p : Program} {e : Env} {s : State} {mm : MethodId} {args : Array Value} {below : List Frame} {meth : Method} {c : Code} {H0 : Heap} {Q : State → Prop} {σ : rMem} {i k : Int32} {g : Nat} (C : rx_Cw p s mm args meth c R_Wire b_Wire_remove 4 none (rx_fin D b ca)) (hk1 : ¬ σ 1 1 ≤ k → vp_in (k - 1) 41) (hk2 : ¬ σ 1 1 ≤ k → vp_in k 41) (hk3 : ¬ σ 1 1 ≤ k → 1 ≤ (σ 2 k.toNatClampNeg).toInt ∧ (σ 2 k.toNatClampNeg).toInt ≤ 41)
    (kx : σ 1 1 ≤ k → rx_X p l e (rx_rm 0) s mm args below meth c (rg_O (rx_fin D b ca)) H0 0 0 Q 4 (rx_m (rx_fin D b ca) σ) 39 [(3, .int k), (2, .ref (rg_A (rx_fin D b ca) g)), (0, .ref (rg_A (rx_fin D b ca) 1)), (1, .int i)] []) (kb : ¬ σ 1 1 ≤ k → rx_X p l e (rx_rm 0) s mm args below meth c (rg_O (rx_fin D b ca)) H0 0 0 Q 4 (rx_m (rx_fin D b ca) (rx_wr σ 2 (k - 1).toNatClampNeg (σ 2 k.toNatClampNeg))) 11 [(3, .int (k + 1)), (2, .ref (rg_A (rx_fin D b ca) g)), (0, .ref (rg_A (rx_fin D b ca) 1)), (1, .int i)] []) : rx_X p l e (rx_rm 0) s mm args below meth c (rg_O (rx_fin D b ca)) H0 0 0 Q 4 (rx_m (rx_fin D b ca) σ) 11 [(3, .int k), (2, .ref (rg_A (rx_fin D b ca) g)), (0, .ref (rg_A (rx_fin D b ca) 1)), (1, .int i)] [] := by
  refine rx_iload_n C.1 (pc := 11) d_Wire_remove_11 rfl ?_
  refine rx_aload_n C.1 (pc := 12) d_Wire_remove_12 rfl ?_
  refine g_Wire_18 D b ca C (pc := 13) d_Wire_remove_13 ?_
  refine rx_icmp_ge C.1 (pc := 16) d_Wire_remove_16 (tgt := 39) rfl (fun h1 => ?_) (fun h1 => ?_)
  ·
    exact kx h1
  ·
    refine rx_aload_n C.1 (pc := 19) d_Wire_remove_19 rfl ?_
    refine g_Wire_11 D b ca C (pc := 20) d_Wire_remove_20 ?_
    refine rx_iload_n C.1 (pc := 23) d_Wire_remove_23 rfl ?_
    refine rx_iconst C.1 (v := 1) (pc := 24) d_Wire_remove_24 (by decide) ?_
    refine rx_isub C.1 (pc := 25) d_Wire_remove_25 ?_
    refine rx_aload_n C.1 (pc := 26) d_Wire_remove_26 rfl ?_
    refine g_Wire_11 D b ca C (pc := 27) d_Wire_remove_27 ?_
    refine rx_iload_n C.1 (pc := 30) d_Wire_remove_30 rfl ?_
    refine rx_ald_rows D b ca C (pc := 31) d_Wire_remove_31 (hk2 h1) ?_
    refine rx_ast_rows D b ca C (pc := 32) d_Wire_remove_32 (hk1 h1) (hk3 h1) ?_
    refine rx_iinc C.1 (v := k + 1) (pc := 33) d_Wire_remove_33 rfl rfl (by decide) ?_
    refine rx_goto C.1 (pc := 36) d_Wire_remove_36 (tgt := 11) rfl ?_
    refine rx_loc C.1 (rx_sub_all (lo' := [(3, .int (k + 1)), (2, .ref (rg_A (rx_fin D b ca) g)), (0, .ref (rg_A (rx_fin D b ca) 1)), (1, .int i)]) ⟨rfl, rfl, rfl, rfl, trivial⟩) ?_
    exact kb h1

theorem pm_ok {σ : rMem} {m : Int32} (hI : rx_SI σ) (hm : rx_iM m) (h : ¬ σ 67 m.toNatClampNeg ≤ σ 68 m.toNatClampNeg) : (σ 68 m.toNatClampNeg + 1).toInt ≤ 200 := by
  have h1 := hI.2.2.2 _ (rx_j2 hm)
  rw [rx_leI] at h
  have h2 := rx_lo (σ 68 m.toNatClampNeg)
  rw [rx_addI (by rw [rx_I1]; omega) (by rw [rx_I1]; omega), rx_I1]
  omega
def bd_Corr_pump (σ : rMem) (m : Int32) : rMem := let m1 := rx_wr σ 68 m.toNatClampNeg ((σ 68 m.toNatClampNeg) + 1); let m2 := (sp_Wire_sendTo m1 0 4 m (m1 68 m.toNatClampNeg)).1; rx_wr m2 70 m.toNatClampNeg (m2 1 2)
set_option maxHeartbeats 4000000 in
set_option maxRecDepth 100000 in
theorem it_Corr_pump (l : Launch) (D : va_G) (b : Nat) (ca : Nat → ClassId) {p : Program} {e : Env} {s : State} {mm : MethodId} {args : Array Value} {below : List Frame} {meth : Method} {c : Code} {H0 : Heap} {Q : State → Prop} {σ : rMem} {m : Int32} (C : rx_Cw p s mm args meth c R_Corr b_Corr_pump 2 none (rx_fin D b ca)) (hm : rx_iM m)
    (kx : (σ 67 m.toNatClampNeg ≤ σ 68 m.toNatClampNeg ∨ σ 69 m.toNatClampNeg + 3 ≤ σ 68 m.toNatClampNeg) → rx_X p l e (rx_rm 3) s mm args below meth c (rg_O (rx_fin D b ca)) H0 0 0 Q 2 (rx_m (rx_fin D b ca) σ) 75 [(0, .ref (rg_A (rx_fin D b ca) 66)), (1, .int m)] []) (kb : ¬ σ 67 m.toNatClampNeg ≤ σ 68 m.toNatClampNeg → ¬ σ 69 m.toNatClampNeg + 3 ≤ σ 68 m.toNatClampNeg → rx_X p l e (rx_rm 3) s mm args below meth c (rg_O (rx_fin D b ca)) H0 0 0 Q 2 (rx_m (rx_fin D b ca) (bd_Corr_pump σ m)) 0 [(0, .ref (rg_A (rx_fin D b ca) 66)), (1, .int m)] []) : rx_X p l e (rx_rm 3) s mm args below meth c (rg_O (rx_fin D b ca)) H0 0 0 Q 2 (rx_m (rx_fin D b ca) σ) 0 [(0, .ref (rg_A (rx_fin D b ca) 66)), (1, .int m)] [] := by
  refine rx_aload_n C.1 (pc := 0) d_Corr_pump_0 rfl ?_
  refine g_Corr_19 D b ca C (pc := 1) d_Corr_pump_1 ?_
  refine rx_iload_n C.1 (pc := 4) d_Corr_pump_4 rfl ?_
  refine rx_iald C (i := 68) (n := 2) (pc := 5) d_Corr_pump_5 (rx_lt (by decide)) rfl (by first | assumption | exact rx_in2 (by assumption) | exact rx_v02 | exact rx_v12) ?_
  refine rx_aload_n C.1 (pc := 6) d_Corr_pump_6 rfl ?_
  refine g_Corr_15 D b ca C (pc := 7) d_Corr_pump_7 ?_
  refine rx_iload_n C.1 (pc := 10) d_Corr_pump_10 rfl ?_
  refine rx_iald C (i := 67) (n := 2) (pc := 11) d_Corr_pump_11 (rx_lt (by decide)) rfl (by first | assumption | exact rx_in2 (by assumption) | exact rx_v02 | exact rx_v12) ?_
  refine rx_icmp_ge C.1 (pc := 12) d_Corr_pump_12 (tgt := 75) rfl (fun h1 => ?_) (fun h1 => ?_)
  ·
    first | exact kx (Or.inl h1) | exact kx (Or.inr h2)
  ·
    refine rx_aload_n C.1 (pc := 15) d_Corr_pump_15 rfl ?_
    refine g_Corr_19 D b ca C (pc := 16) d_Corr_pump_16 ?_
    refine rx_iload_n C.1 (pc := 19) d_Corr_pump_19 rfl ?_
    refine rx_iald C (i := 68) (n := 2) (pc := 20) d_Corr_pump_20 (rx_lt (by decide)) rfl (by first | assumption | exact rx_in2 (by assumption) | exact rx_v02 | exact rx_v12) ?_
    refine rx_aload_n C.1 (pc := 21) d_Corr_pump_21 rfl ?_
    refine g_Corr_22 D b ca C (pc := 22) d_Corr_pump_22 ?_
    refine rx_iload_n C.1 (pc := 25) d_Corr_pump_25 rfl ?_
    refine rx_iald C (i := 69) (n := 2) (pc := 26) d_Corr_pump_26 (rx_lt (by decide)) rfl (by first | assumption | exact rx_in2 (by assumption) | exact rx_v02 | exact rx_v12) ?_
    refine rx_iconst C.1 (v := 3) (pc := 27) d_Corr_pump_27 (by decide) ?_
    refine rx_iadd C.1 (pc := 28) d_Corr_pump_28 ?_
    refine rx_icmp_ge C.1 (pc := 29) d_Corr_pump_29 (tgt := 75) rfl (fun h2 => ?_) (fun h2 => ?_)
    ·
      first | exact kx (Or.inl h1) | exact kx (Or.inr h2)
    ·
      refine rx_aload_n C.1 (pc := 32) d_Corr_pump_32 rfl ?_
      refine g_Corr_19 D b ca C (pc := 33) d_Corr_pump_33 ?_
      refine rx_iload_n C.1 (pc := 36) d_Corr_pump_36 rfl ?_
      refine rx_dup2_11 C.1 (pc := 37) d_Corr_pump_37 rfl rfl ?_
      refine rx_iald C (i := 68) (n := 2) (pc := 38) d_Corr_pump_38 (rx_lt (by decide)) rfl (by first | assumption | exact rx_in2 (by assumption) | exact rx_v02 | exact rx_v12) ?_
      refine rx_iconst C.1 (v := 1) (pc := 39) d_Corr_pump_39 (by decide) ?_
      refine rx_iadd C.1 (pc := 40) d_Corr_pump_40 ?_
      refine rx_si (fun hI => ?_)
      have hz := pm_ok hI hm h1
      refine rx_iast C (i := 68) (n := 2) (pc := 41) d_Corr_pump_41 (rx_lt (by decide)) (fun _ => rfl) (by first | assumption | exact rx_in2 (by assumption) | exact rx_v02 | exact rx_v12) (rx_SI_cnt (by omega) hz) ?_
      refine rx_aload_n C.1 (pc := 42) d_Corr_pump_42 rfl ?_
      refine g_Corr_9 D b ca C (pc := 43) d_Corr_pump_43 ?_
      refine rx_iconst C.1 (v := 0) (pc := 46) d_Corr_pump_46 (by decide) ?_
      refine rx_iconst C.1 (v := 4) (pc := 47) d_Corr_pump_47 (by decide) ?_
      refine rx_iload_n C.1 (pc := 48) d_Corr_pump_48 rfl ?_
      refine rx_aload_n C.1 (pc := 49) d_Corr_pump_49 rfl ?_
      refine g_Corr_19 D b ca C (pc := 50) d_Corr_pump_50 ?_
      refine rx_iload_n C.1 (pc := 53) d_Corr_pump_53 rfl ?_
      refine rx_iald C (i := 68) (n := 2) (pc := 54) d_Corr_pump_54 (rx_lt (by decide)) rfl (by first | assumption | exact rx_in2 (by assumption) | exact rx_v02 | exact rx_v12) ?_
      refine q_Corr_28 D b ca C (pc := 55) d_Corr_pump_55 (c_Wire_sendTo l D b ca ) (fun hI => rq_Wire_sendTo hI) ⟨Nat.le_of_ble_eq_true rfl, Nat.le_of_ble_eq_true rfl⟩ ⟨Nat.zero_le _, Nat.zero_le _⟩ (Nat.le_of_ble_eq_true rfl) (fun hq1 => ?_)
      refine rx_pop C.1 (pc := 58) d_Corr_pump_58 rfl ?_
      refine rx_aload_n C.1 (pc := 59) d_Corr_pump_59 rfl ?_
      refine g_Corr_25 D b ca C (pc := 60) d_Corr_pump_60 ?_
      refine rx_iload_n C.1 (pc := 63) d_Corr_pump_63 rfl ?_
      refine rx_aload_n C.1 (pc := 64) d_Corr_pump_64 rfl ?_
      refine g_Corr_9 D b ca C (pc := 65) d_Corr_pump_65 ?_
      refine g_Corr_34 D b ca C (pc := 68) d_Corr_pump_68 ?_
      refine rx_iast C (i := 70) (n := 2) (pc := 71) d_Corr_pump_71 (rx_lt (by decide)) (fun _ => rfl) (by first | assumption | exact rx_in2 (by assumption) | exact rx_v02 | exact rx_v12) (rx_SI_wr (by omega)) ?_
      refine rx_goto C.1 (pc := 72) d_Corr_pump_72 (tgt := 0) rfl ?_
      exact kb h1 h2

set_option maxHeartbeats 4000000 in
set_option maxRecDepth 100000 in
theorem it_Corr_resend (l : Launch) (D : va_G) (b : Nat) (ca : Nat → ClassId) {p : Program} {e : Env} {s : State} {mm : MethodId} {args : Array Value} {below : List Frame} {meth : Method} {c : Code} {H0 : Heap} {Q : State → Prop} {σ : rMem} {m k : Int32} (C : rx_Cw p s mm args meth c R_Corr b_Corr_resendIfDue 3 none (rx_fin D b ca)) (hm : rx_iM m)
    (kx : σ 68 m.toNatClampNeg < k → rx_X p l e (rx_rm 3) s mm args below meth c (rg_O (rx_fin D b ca)) H0 0 0 Q 3 (rx_m (rx_fin D b ca) σ) 71 [(2, .int k), (0, .ref (rg_A (rx_fin D b ca) 66)), (1, .int m)] []) (kb : ¬ σ 68 m.toNatClampNeg < k → rx_X p l e (rx_rm 3) s mm args below meth c (rg_O (rx_fin D b ca)) H0 0 0 Q 3 (rx_m (rx_fin D b ca) (sp_Wire_sendTo σ 0 4 m k).1) 43 [(2, .int (k + 1)), (0, .ref (rg_A (rx_fin D b ca) 66)), (1, .int m)] []) : rx_X p l e (rx_rm 3) s mm args below meth c (rg_O (rx_fin D b ca)) H0 0 0 Q 3 (rx_m (rx_fin D b ca) σ) 43 [(2, .int k), (0, .ref (rg_A (rx_fin D b ca) 66)), (1, .int m)] [] := by
  refine rx_iload_n C.1 (pc := 43) d_Corr_resendIfDue_43 rfl ?_
  refine rx_aload_n C.1 (pc := 44) d_Corr_resendIfDue_44 rfl ?_
  refine g_Corr_19 D b ca C (pc := 45) d_Corr_resendIfDue_45 ?_
  refine rx_iload_n C.1 (pc := 48) d_Corr_resendIfDue_48 rfl ?_
  refine rx_iald C (i := 68) (n := 2) (pc := 49) d_Corr_resendIfDue_49 (rx_lt (by decide)) rfl (by first | assumption | exact rx_in2 (by assumption) | exact rx_v02 | exact rx_v12) ?_
  refine rx_icmp_gt C.1 (pc := 50) d_Corr_resendIfDue_50 (tgt := 71) rfl (fun h1 => ?_) (fun h1 => ?_)
  ·
    exact kx h1
  ·
    refine rx_aload_n C.1 (pc := 53) d_Corr_resendIfDue_53 rfl ?_
    refine g_Corr_9 D b ca C (pc := 54) d_Corr_resendIfDue_54 ?_
    refine rx_iconst C.1 (v := 0) (pc := 57) d_Corr_resendIfDue_57 (by decide) ?_
    refine rx_iconst C.1 (v := 4) (pc := 58) d_Corr_resendIfDue_58 (by decide) ?_
    refine rx_iload_n C.1 (pc := 59) d_Corr_resendIfDue_59 rfl ?_
    refine rx_iload_n C.1 (pc := 60) d_Corr_resendIfDue_60 rfl ?_
    refine q_Corr_28 D b ca C (pc := 61) d_Corr_resendIfDue_61 (c_Wire_sendTo l D b ca ) (fun hI => rq_Wire_sendTo hI) ⟨Nat.le_of_ble_eq_true rfl, Nat.le_of_ble_eq_true rfl⟩ ⟨Nat.zero_le _, Nat.zero_le _⟩ (Nat.le_of_ble_eq_true rfl) (fun hq1 => ?_)
    refine rx_pop C.1 (pc := 64) d_Corr_resendIfDue_64 rfl ?_
    refine rx_iinc C.1 (v := k + 1) (pc := 65) d_Corr_resendIfDue_65 rfl rfl (by decide) ?_
    refine rx_goto C.1 (pc := 68) d_Corr_resendIfDue_68 (tgt := 43) rfl ?_
    refine rx_loc C.1 (rx_sub_all (lo' := [(2, .int (k + 1)), (0, .ref (rg_A (rx_fin D b ca) 66)), (1, .int m)]) ⟨rfl, rfl, rfl, trivial⟩) ?_
    exact kb h1
end
section
theorem fr_begin {σ : rMem} {q c : Nat} {kd tg mo nu : Int32} (h : c ≠ q) : sp_Msg_begin σ q kd tg mo nu c = σ c := by
  simp only [sp_Msg_begin, rx_wr_ne h]
theorem fr_nextRow {σ : rMem} {c : Nat} (h : c ≠ 1) : (sp_Wire_nextRow σ).1 c = σ c := by
  unfold sp_Wire_nextRow
  by_cases h1 : rv_Wire_isFull σ = 0
  · rw [if_pos h1]
    exact rx_wr_ne h
  · rw [if_neg h1]
theorem fr_sendTo {σ : rMem} {c : Nat} {tg kd mo nu : Int32} (hI : rx_SI σ) (h : c ≠ 1) (h2 : c < 3 ∨ 45 ≤ c) : (sp_Wire_sendTo σ tg kd mo nu).1 c = σ c := by
  have hq := rq_Wire_nextRow hI
  show sp_Msg_begin (sp_Wire_nextRow σ).1 (sp_Wire_nextRow σ).2 kd tg mo nu c = σ c
  rw [fr_begin (by omega), fr_nextRow h]
/-! Correspondent.pump -/
def pm_Corr : Nat → rMem → Int32 → rMem
  | 0, σ, _ => σ
  | n + 1, σ, m => if σ 67 m.toNatClampNeg ≤ σ 68 m.toNatClampNeg ∨ σ 69 m.toNatClampNeg + 3 ≤ σ 68 m.toNatClampNeg then σ else pm_Corr n (bd_Corr_pump σ m) m
def sp_Corr_pump (σ : rMem) (m : Int32) : rMem := pm_Corr ((σ 67 m.toNatClampNeg).toInt - (σ 68 m.toNatClampNeg).toInt).toNat σ m
theorem bd_fr {σ : rMem} {m : Int32} {c : Nat} (hI : rx_SI σ) (hm : rx_iM m) (h : ¬ σ 67 m.toNatClampNeg ≤ σ 68 m.toNatClampNeg) (h1 : c ≠ 1) (h2 : c < 3 ∨ 45 ≤ c) (h3 : c ≠ 70) : bd_Corr_pump σ m c = rx_wr σ 68 m.toNatClampNeg (σ 68 m.toNatClampNeg + 1) c := by
  have hI1 : rx_SI (rx_wr σ 68 m.toNatClampNeg (σ 68 m.toNatClampNeg + 1)) := rx_SI_cnt (by omega) (pm_ok hI hm h) hI
  unfold bd_Corr_pump
  rw [rx_wr_ne h3, fr_sendTo hI1 h1 h2]
theorem lp_Corr_pump (l : Launch) (D : va_G) (b : Nat) (ca : Nat → ClassId) {m : Int32} (hm : rx_iM m) {p : Program} {e : Env} {s : State} {mm : MethodId} {args : Array Value} {below : List Frame} {meth : Method} {c : Code} (C : rx_Cw p s mm args meth c R_Corr b_Corr_pump 2 none (rx_fin D b ca)) :
    ∀ (n : Nat) (σ : rMem), ((σ 67 m.toNatClampNeg).toInt - (σ 68 m.toNatClampNeg).toInt).toNat ≤ n → rx_X p l e (rx_rm 3) s mm args below meth c (rg_O (rx_fin D b ca)) s.heap 0 0 (MQ below (rx_Q (rx_fin D b ca) none (pm_Corr n σ m)) args s 0 0 (rg_O (rx_fin D b ca))) 2 (rx_m (rx_fin D b ca) σ) 0 [(0, .ref (rg_A (rx_fin D b ca) 66)), (1, .int m)] [] := by
  intro n
  induction n with
  | zero =>
    intro σ hf
    refine it_Corr_pump l D b ca C hm (fun h => rx_vret C (pc := 75) d_Corr_pump_75 rfl) (fun h1 h2 => ?_)
    rw [rx_leI] at h1
    omega
  | succ n ih =>
    intro σ hf
    refine rx_si (fun hI => ?_)
    refine it_Corr_pump l D b ca C hm (fun h => rx_vret C (pc := 75) d_Corr_pump_75 (by rw [pm_Corr, if_pos h])) (fun h1 h2 => ?_)
    have e1 : pm_Corr (n + 1) σ m = pm_Corr n (bd_Corr_pump σ m) m := by rw [pm_Corr, if_neg (fun h => h.elim h1 h2)]
    rw [e1]
    refine ih _ ?_
    rw [bd_fr hI hm h1 (by omega) (by omega) (by omega), bd_fr hI hm h1 (by omega) (by omega) (by omega), rx_wr_ne (a := 67) (by omega), rx_wr_eq]
    have h3 := hI.2.2.2 _ (rx_j2 hm)
    have h4 := rx_lo (σ 68 m.toNatClampNeg)
    rw [rx_leI] at h1
    rw [rx_addI (by rw [rx_I1]; omega) (by rw [rx_I1]; omega), rx_I1]
    omega
theorem c_Corr_pump (l : Launch) (D : va_G) (b : Nat) (ca : Nat → ClassId) {σ : rMem} {m : Int32} (hm : rx_iM m) : rx_C l (rx_fin D b ca) y_Corr_pump b_Corr_pump 2 none (rx_rm 3) [.ref (rg_A (rx_fin D b ca) 66), .int m] σ none (sp_Corr_pump σ m) := by
  refine rx_of (lo := [(0, .ref (rg_A (rx_fin D b ca) 66)), (1, .int m)]) (by decide) (rx_fin_D D b ca) rfl (Nat.le_of_ble_eq_true rfl) rfl ?_
  intro p e s m below meth c C
  exact lp_Corr_pump l D b ca hm C _ _ (Nat.le_refl _)
/-! Correspondent.resendIfDue -/
def rs_Corr : Nat → rMem → Int32 → Int32 → rMem
  | 0, σ, _, _ => σ
  | n + 1, σ, m, k => if σ 68 m.toNatClampNeg < k then σ else rs_Corr n (sp_Wire_sendTo σ 0 4 m k).1 m (k + 1)
theorem lp_Corr_resend (l : Launch) (D : va_G) (b : Nat) (ca : Nat → ClassId) {m : Int32} (hm : rx_iM m) {p : Program} {e : Env} {s : State} {mm : MethodId} {args : Array Value} {below : List Frame} {meth : Method} {c : Code} {H0 : Heap} {Q : State → Prop} (C : rx_Cw p s mm args meth c R_Corr b_Corr_resendIfDue 3 none (rx_fin D b ca)) :
    ∀ (n : Nat) (σ : rMem) (k : Int32), ((σ 68 m.toNatClampNeg).toInt + 1 - k.toInt).toNat ≤ n →
      (∀ k' : Int32, rx_X p l e (rx_rm 3) s mm args below meth c (rg_O (rx_fin D b ca)) H0 0 0 Q 3 (rx_m (rx_fin D b ca) (rs_Corr n σ m k)) 71 [(2, .int k'), (0, .ref (rg_A (rx_fin D b ca) 66)), (1, .int m)] []) →
      rx_X p l e (rx_rm 3) s mm args below meth c (rg_O (rx_fin D b ca)) H0 0 0 Q 3 (rx_m (rx_fin D b ca) σ) 43 [(2, .int k), (0, .ref (rg_A (rx_fin D b ca) 66)), (1, .int m)] [] := by
  intro n
  induction n with
  | zero =>
    intro σ k hf kx
    refine it_Corr_resend l D b ca C hm (fun h => kx k) (fun h => ?_)
    rw [rx_ltI] at h
    omega
  | succ n ih =>
    intro σ k hf kx
    refine rx_si (fun hI => ?_)
    refine it_Corr_resend l D b ca C hm (fun h => ?_) (fun h => ?_)
    · have h2 := kx k
      rw [rs_Corr, if_pos h] at h2
      exact h2
    · refine ih _ _ ?_ (fun k' => ?_)
      · rw [fr_sendTo hI (by omega) (by omega)]
        have h3 := hI.2.2.2 _ (rx_j2 hm)
        have h4 := rx_lo k
        rw [rx_ltI] at h
        rw [rx_addI (by rw [rx_I1]; omega) (by rw [rx_I1]; omega), rx_I1]
        omega
      · have h2 := kx k'
        rw [rs_Corr, if_neg h] at h2
        exact h2
/-! Wire.remove -/
def sh_row (f : Nat → Int32) (i k : Nat) : Nat → Int32 := fun t => if i ≤ t ∧ t + 1 < k then f (t + 1) else f t
def sh_mem (σ : rMem) (i k : Nat) : rMem := fun a => if a = 2 then sh_row (σ 2) i k else σ a
theorem sh_ne {σ : rMem} {i k a : Nat} (h : a ≠ 2) : sh_mem σ i k a = σ a := if_neg h
theorem sh_2 {σ : rMem} {i k : Nat} : sh_mem σ i k 2 = sh_row (σ 2) i k := if_pos rfl
theorem sh_0 {σ : rMem} {i : Nat} : sh_mem σ i (i + 1) = σ := by
  funext a t
  by_cases h : a = 2
  · subst h
    rw [sh_2]
    exact if_neg (by omega)
  · rw [sh_ne h]
theorem sh_step {σ : rMem} {i k : Nat} (h : i + 1 ≤ k) : rx_wr (sh_mem σ i k) 2 (k - 1) (sh_mem σ i k 2 k) = sh_mem σ i (k + 1) := by
  funext a t
  by_cases ha : a = 2
  · subst ha
    rw [rx_wr_at, sh_2, sh_2]
    by_cases ht : t = k - 1
    · subst ht
      rw [if_pos ⟨rfl, rfl⟩]
      have e1 : sh_row (σ 2) i k k = σ 2 k := if_neg (by omega)
      have e2 : sh_row (σ 2) i (k + 1) (k - 1) = σ 2 (k - 1 + 1) := if_pos (by omega)
      rw [e1, e2, show k - 1 + 1 = k by omega]
    · rw [if_neg (fun h => ht h.2)]
      unfold sh_row
      by_cases h2 : i ≤ t ∧ t + 1 < k
      · rw [if_pos h2, if_pos (by omega)]
      · rw [if_neg h2, if_neg (by omega)]
  · rw [rx_wr_ne ha, sh_ne ha, sh_ne ha]
theorem rm_in {σ : rMem} {i : Int32} (hI : rx_SI σ) (hi : 0 ≤ i.toInt ∧ i.toInt < (σ 1 1).toInt) : vp_in i 41 := rx_vinI hi.1 (by have := hI.1; omega)
theorem rm_dec {σ : rMem} {i : Int32} (hI : rx_SI σ) (hi : 0 ≤ i.toInt ∧ i.toInt < (σ 1 1).toInt) : (σ 1 1 - 1).toInt = (σ 1 1).toInt - 1 := by
  have := hI.1
  rw [rx_subI (by rw [rx_I1]; omega) (by rw [rx_I1]; omega), rx_I1]
theorem rm_sz {σ : rMem} {i : Int32} {k n : Nat} (hI : rx_SI σ) (hi : 0 ≤ i.toInt ∧ i.toInt < (σ 1 1).toInt) : 0 ≤ (sh_mem σ k n 1 1 - 1).toInt ∧ (sh_mem σ k n 1 1 - 1).toInt ≤ 40 := by
  have := hI.1
  rw [sh_ne (by omega), rm_dec hI hi]
  omega
theorem rm_ix {σ : rMem} {i : Int32} {k n : Nat} (hI : rx_SI σ) (hi : 0 ≤ i.toInt ∧ i.toInt < (σ 1 1).toInt) : vp_in (rx_wr (sh_mem σ k n) 1 1 (sh_mem σ k n 1 1 - 1) 1 1) 41 := by
  have := hI.1
  rw [rx_wr_eq, sh_ne (by omega)]
  exact rx_vinI (by rw [rm_dec hI hi]; omega) (by rw [rm_dec hI hi]; omega)
theorem lp_Wire_remove1 (l : Launch) (D : va_G) (b : Nat) (ca : Nat → ClassId) {p : Program} {e : Env} {s : State} {mm : MethodId} {args : Array Value} {below : List Frame} {meth : Method} {c : Code} {H0 : Heap} {Q : State → Prop} {σ : rMem} {i : Int32} {g : Nat} (C : rx_Cw p s mm args meth c R_Wire b_Wire_remove 4 none (rx_fin D b ca)) (hI : rx_SI σ) (hi : 0 ≤ i.toInt ∧ i.toInt < (σ 1 1).toInt)
    (kx : ∀ k' : Int32, rx_X p l e (rx_rm 0) s mm args below meth c (rg_O (rx_fin D b ca)) H0 0 0 Q 4 (rx_m (rx_fin D b ca) (sh_mem σ i.toNatClampNeg (σ 1 1).toNatClampNeg)) 39 [(3, .int k'), (2, .ref (rg_A (rx_fin D b ca) g)), (0, .ref (rg_A (rx_fin D b ca) 1)), (1, .int i)] []) :
    ∀ (n : Nat) (k : Int32), (σ 1 1).toInt - k.toInt = n → i.toInt + 1 ≤ k.toInt → rx_X p l e (rx_rm 0) s mm args below meth c (rg_O (rx_fin D b ca)) H0 0 0 Q 4 (rx_m (rx_fin D b ca) (sh_mem σ i.toNatClampNeg k.toNatClampNeg)) 11 [(3, .int k), (2, .ref (rg_A (rx_fin D b ca) g)), (0, .ref (rg_A (rx_fin D b ca) 1)), (1, .int i)] [] := by
  have h40 := hI.1
  have hiN := rx_cn hi.1
  intro n
  induction n with
  | zero =>
    intro k hn hk
    have hk0 : k = σ 1 1 := rx_eqI.mpr (by omega)
    subst hk0
    have hno : ∀ {P : Prop}, ¬ sh_mem σ i.toNatClampNeg (σ 1 1).toNatClampNeg 1 1 ≤ σ 1 1 → P := fun h => absurd (by rw [sh_ne (by omega), rx_leI]; omega) h
    exact it_Wire_remove l D b ca C (fun h => hno h) (fun h => hno h) (fun h => hno h) (fun h => kx _) (fun h => hno h)
  | succ n ih =>
    intro k hn hk
    have hkN := rx_cn (x := k) (by omega)
    have hs : ¬ sh_mem σ i.toNatClampNeg k.toNatClampNeg 1 1 ≤ k := by
      rw [sh_ne (by omega), rx_leI]
      omega
    have hk1 : (k - 1).toInt = k.toInt - 1 := by rw [rx_subI (by rw [rx_I1]; omega) (by rw [rx_I1]; omega), rx_I1]
    have hk2 : (k + 1).toInt = k.toInt + 1 := by rw [rx_addI (by rw [rx_I1]; omega) (by rw [rx_I1]; omega), rx_I1]
    have hkM := rx_cn (x := k - 1) (by omega)
    have hkP := rx_cn (x := k + 1) (by omega)
    refine it_Wire_remove l D b ca C (fun h => rx_vinI (by omega) (by omega)) (fun h => rx_vinI (by omega) (by omega)) (fun h => ?_) (fun h => absurd h hs) (fun h => ?_)
    · rw [sh_2, show sh_row (σ 2) i.toNatClampNeg k.toNatClampNeg k.toNatClampNeg = σ 2 k.toNatClampNeg from if_neg (by omega)]
      exact hI.2.1 _ (by omega)
    · rw [show (k - 1).toNatClampNeg = k.toNatClampNeg - 1 by omega, sh_step (by omega), show k.toNatClampNeg + 1 = (k + 1).toNatClampNeg by omega]
      exact ih (k + 1) (by omega) (by omega)
theorem lp_Wire_remove (l : Launch) (D : va_G) (b : Nat) (ca : Nat → ClassId) {p : Program} {e : Env} {s : State} {mm : MethodId} {args : Array Value} {below : List Frame} {meth : Method} {c : Code} {H0 : Heap} {Q : State → Prop} {σ : rMem} {i : Int32} {g : Nat} (C : rx_Cw p s mm args meth c R_Wire b_Wire_remove 4 none (rx_fin D b ca)) (hI : rx_SI σ) (hi : 0 ≤ i.toInt ∧ i.toInt < (σ 1 1).toInt)
    (kx : ∀ k' : Int32, rx_X p l e (rx_rm 0) s mm args below meth c (rg_O (rx_fin D b ca)) H0 0 0 Q 4 (rx_m (rx_fin D b ca) (sh_mem σ i.toNatClampNeg (σ 1 1).toNatClampNeg)) 39 [(3, .int k'), (2, .ref (rg_A (rx_fin D b ca) g)), (0, .ref (rg_A (rx_fin D b ca) 1)), (1, .int i)] []) :
    rx_X p l e (rx_rm 0) s mm args below meth c (rg_O (rx_fin D b ca)) H0 0 0 Q 4 (rx_m (rx_fin D b ca) σ) 11 [(3, .int (i + 1)), (2, .ref (rg_A (rx_fin D b ca) g)), (0, .ref (rg_A (rx_fin D b ca) 1)), (1, .int i)] [] := by
  have h40 := hI.1
  have hiN := rx_cn hi.1
  have hk2 : (i + 1).toInt = i.toInt + 1 := by rw [rx_addI (by rw [rx_I1]; omega) (by rw [rx_I1]; omega), rx_I1]
  have hkP := rx_cn (x := i + 1) (by omega)
  have h := lp_Wire_remove1 l D b ca C hI hi kx ((σ 1 1).toInt - (i + 1).toInt).toNat (i + 1) (by omega) (by omega)
  rw [show (i + 1).toNatClampNeg = i.toNatClampNeg + 1 by omega, sh_0] at h
  exact h
end
section
def sp_Corr_resendIfDue (σ : rMem) (m : Int32) : rMem := if (σ 68 m.toNatClampNeg) ≤ (σ 69 m.toNatClampNeg) then σ else (if 5 ≤ ((σ 1 2) - (σ 70 m.toNatClampNeg)) then (let m1 := rs_Corr ((σ 68 m.toNatClampNeg).toInt + 1 - (σ 69 m.toNatClampNeg + 1).toInt).toNat σ m (σ 69 m.toNatClampNeg + 1); let m2 := rx_wr m1 70 m.toNatClampNeg (m1 1 2); m2) else σ)
set_option maxHeartbeats 4000000 in
set_option maxRecDepth 100000 in
theorem c_Corr_resendIfDue (l : Launch) (D : va_G) (b : Nat) (ca : Nat → ClassId) {σ : rMem} {m : Int32} (hm : rx_iM m) : rx_C l (rx_fin D b ca) y_Corr_resendIfDue b_Corr_resendIfDue 3 none (rx_rm 3) [.ref (rg_A (rx_fin D b ca) 66), .int m] σ none (sp_Corr_resendIfDue σ m) := by
  refine rx_of (lo := [(0, .ref (rg_A (rx_fin D b ca) 66)), (1, .int m)]) (by decide) (rx_fin_D D b ca) rfl (Nat.le_of_ble_eq_true rfl) rfl ?_
  intro p e s mm below meth c C
  refine rx_aload_n C.1 (pc := 0) d_Corr_resendIfDue_0 rfl ?_
  refine g_Corr_19 D b ca C (pc := 1) d_Corr_resendIfDue_1 ?_
  refine rx_iload_n C.1 (pc := 4) d_Corr_resendIfDue_4 rfl ?_
  refine rx_iald C (i := 68) (n := 2) (pc := 5) d_Corr_resendIfDue_5 (rx_lt (by decide)) rfl (by first | assumption | exact rx_in2 (by assumption) | exact rx_v02 | exact rx_v12) ?_
  refine rx_aload_n C.1 (pc := 6) d_Corr_resendIfDue_6 rfl ?_
  refine g_Corr_22 D b ca C (pc := 7) d_Corr_resendIfDue_7 ?_
  refine rx_iload_n C.1 (pc := 10) d_Corr_resendIfDue_10 rfl ?_
  refine rx_iald C (i := 69) (n := 2) (pc := 11) d_Corr_resendIfDue_11 (rx_lt (by decide)) rfl (by first | assumption | exact rx_in2 (by assumption) | exact rx_v02 | exact rx_v12) ?_
  refine rx_icmp_le C.1 (pc := 12) d_Corr_resendIfDue_12 (tgt := 33) rfl (fun h1 => ?_) (fun h1 => ?_)
  ·
    exact rx_vret C (pc := 33) d_Corr_resendIfDue_33 (by unfold sp_Corr_resendIfDue; first | (simp only [if_pos h1]; done) | (simp only [if_pos h1]; rfl))
  ·
    refine rx_aload_n C.1 (pc := 15) d_Corr_resendIfDue_15 rfl ?_
    refine g_Corr_9 D b ca C (pc := 16) d_Corr_resendIfDue_16 ?_
    refine g_Corr_34 D b ca C (pc := 19) d_Corr_resendIfDue_19 ?_
    refine rx_aload_n C.1 (pc := 22) d_Corr_resendIfDue_22 rfl ?_
    refine g_Corr_25 D b ca C (pc := 23) d_Corr_resendIfDue_23 ?_
    refine rx_iload_n C.1 (pc := 26) d_Corr_resendIfDue_26 rfl ?_
    refine rx_iald C (i := 70) (n := 2) (pc := 27) d_Corr_resendIfDue_27 (rx_lt (by decide)) rfl (by first | assumption | exact rx_in2 (by assumption) | exact rx_v02 | exact rx_v12) ?_
    refine rx_isub C.1 (pc := 28) d_Corr_resendIfDue_28 ?_
    refine rx_iconst C.1 (v := 5) (pc := 29) d_Corr_resendIfDue_29 (by decide) ?_
    refine rx_icmp_ge C.1 (pc := 30) d_Corr_resendIfDue_30 (tgt := 34) rfl (fun h2 => ?_) (fun h2 => ?_)
    ·
      refine rx_aload_n C.1 (pc := 34) d_Corr_resendIfDue_34 rfl ?_
      refine g_Corr_22 D b ca C (pc := 35) d_Corr_resendIfDue_35 ?_
      refine rx_iload_n C.1 (pc := 38) d_Corr_resendIfDue_38 rfl ?_
      refine rx_iald C (i := 69) (n := 2) (pc := 39) d_Corr_resendIfDue_39 (rx_lt (by decide)) rfl (by first | assumption | exact rx_in2 (by assumption) | exact rx_v02 | exact rx_v12) ?_
      refine rx_iconst C.1 (v := 1) (pc := 40) d_Corr_resendIfDue_40 (by decide) ?_
      refine rx_iadd C.1 (pc := 41) d_Corr_resendIfDue_41 ?_
      refine rx_istore_n C.1 (pc := 42) d_Corr_resendIfDue_42 (by decide) ?_
      refine rx_loc C.1 (rx_sub_all (lo' := [(2, .int (σ 69 m.toNatClampNeg + 1)), (0, .ref (rg_A (rx_fin D b ca) 66)), (1, .int m)]) ⟨rfl, rfl, rfl, trivial⟩) ?_
      refine lp_Corr_resend l D b ca hm C _ _ _ (Nat.le_refl _) (fun k' => ?_)
      refine rx_aload_n C.1 (pc := 71) d_Corr_resendIfDue_71 rfl ?_
      refine g_Corr_25 D b ca C (pc := 72) d_Corr_resendIfDue_72 ?_
      refine rx_iload_n C.1 (pc := 75) d_Corr_resendIfDue_75 rfl ?_
      refine rx_aload_n C.1 (pc := 76) d_Corr_resendIfDue_76 rfl ?_
      refine g_Corr_9 D b ca C (pc := 77) d_Corr_resendIfDue_77 ?_
      refine g_Corr_34 D b ca C (pc := 80) d_Corr_resendIfDue_80 ?_
      refine rx_iast C (i := 70) (n := 2) (pc := 83) d_Corr_resendIfDue_83 (rx_lt (by decide)) (fun _ => rfl) (by first | assumption | exact rx_in2 (by assumption) | exact rx_v02 | exact rx_v12) (rx_SI_wr (by omega)) ?_
      exact rx_vret C (pc := 84) d_Corr_resendIfDue_84 (by unfold sp_Corr_resendIfDue; first | (simp only [if_neg h1, if_pos h2]; done) | (simp only [if_neg h1, if_pos h2]; rfl))
    ·
      exact rx_vret C (pc := 33) d_Corr_resendIfDue_33 (by unfold sp_Corr_resendIfDue; first | (simp only [if_neg h1, if_neg h2]; done) | (simp only [if_neg h1, if_neg h2]; rfl))

def sp_Wire_remove (σ : rMem) (i : Int32) : rMem := let m1 := sh_mem σ i.toNatClampNeg (σ 1 1).toNatClampNeg; let m2 := rx_wr m1 1 1 ((m1 1 1) - 1); let m3 := rx_wr m2 2 (m2 1 1).toNatClampNeg (σ 2 i.toNatClampNeg); m3
set_option maxHeartbeats 4000000 in
set_option maxRecDepth 100000 in
theorem c_Wire_remove (l : Launch) (D : va_G) (b : Nat) (ca : Nat → ClassId) {σ : rMem} {i : Int32} (hi : 0 ≤ i.toInt ∧ i.toInt < (σ 1 1).toInt) : rx_C l (rx_fin D b ca) y_Wire_remove b_Wire_remove 4 none (rx_rm 0) [.ref (rg_A (rx_fin D b ca) 1), .int i] σ none (sp_Wire_remove σ i) := by
  refine rx_of (lo := [(0, .ref (rg_A (rx_fin D b ca) 1)), (1, .int i)]) (by decide) (rx_fin_D D b ca) rfl (Nat.le_of_ble_eq_true rfl) rfl ?_
  intro p e s mm below meth c C
  refine rx_si (fun hI => ?_)
  have hi41 := rm_in hI hi
  refine rx_aload_n C.1 (pc := 0) d_Wire_remove_0 rfl ?_
  refine g_Wire_11 D b ca C (pc := 1) d_Wire_remove_1 ?_
  refine rx_iload_n C.1 (pc := 4) d_Wire_remove_4 rfl ?_
  refine rx_ald_rows D b ca C (pc := 5) d_Wire_remove_5 hi41 ?_
  refine rx_astore_n C.1 (pc := 6) d_Wire_remove_6 (by decide) ?_
  refine rx_iload_n C.1 (pc := 7) d_Wire_remove_7 rfl ?_
  refine rx_iconst C.1 (v := 1) (pc := 8) d_Wire_remove_8 (by decide) ?_
  refine rx_iadd C.1 (pc := 9) d_Wire_remove_9 ?_
  refine rx_istore_n C.1 (pc := 10) d_Wire_remove_10 (by decide) ?_
  refine rx_loc C.1 (rx_sub_all (lo' := [(3, .int (i + 1)), (2, .ref (rg_A (rx_fin D b ca) (2 + (σ 2 i.toNatClampNeg).toNatClampNeg))), (0, .ref (rg_A (rx_fin D b ca) 1)), (1, .int i)]) ⟨rfl, rfl, rfl, rfl, trivial⟩) ?_
  refine lp_Wire_remove l D b ca C hI hi (fun k' => ?_)
  refine rx_aload_n C.1 (pc := 39) d_Wire_remove_39 rfl ?_
  refine rx_dup C.1 (pc := 40) d_Wire_remove_40 rfl ?_
  refine g_Wire_18 D b ca C (pc := 41) d_Wire_remove_41 ?_
  refine rx_iconst C.1 (v := 1) (pc := 44) d_Wire_remove_44 (by decide) ?_
  refine rx_isub C.1 (pc := 45) d_Wire_remove_45 ?_
  have hz1 := rm_sz (k := i.toNatClampNeg) (n := (σ 1 1).toNatClampNeg) hI hi
  refine p_Wire_18 D b ca C (pc := 46) d_Wire_remove_46 (by assumption) ?_
  refine rx_aload_n C.1 (pc := 49) d_Wire_remove_49 rfl ?_
  refine g_Wire_11 D b ca C (pc := 50) d_Wire_remove_50 ?_
  refine rx_aload_n C.1 (pc := 53) d_Wire_remove_53 rfl ?_
  refine g_Wire_18 D b ca C (pc := 54) d_Wire_remove_54 ?_
  refine rx_aload_n C.1 (pc := 57) d_Wire_remove_57 rfl ?_
  refine rx_ast_rows D b ca C (pc := 58) d_Wire_remove_58 (rm_ix hI hi) (hI.2.1 _ (rx_vn hi41)) ?_
  exact rx_vret C (pc := 59) d_Wire_remove_59 (by first | rfl | (unfold sp_Wire_remove; rfl))

def sp_Corr_receive (σ : rMem) (r : Nat) : rMem := if (σ r 0) = 6 then (if (σ r 4) ≤ (σ 69 (σ r 3).toNatClampNeg) then σ else (let m1 := rx_wr σ 69 (σ r 3).toNatClampNeg (σ r 4); let m2 := rx_wr m1 70 (σ r 3).toNatClampNeg (m1 1 2); let m3 := sp_Corr_pump m2 (σ r 3); m3)) else σ
set_option maxHeartbeats 4000000 in
set_option maxRecDepth 100000 in
theorem c_Corr_receive (l : Launch) (D : va_G) (b : Nat) (ca : Nat → ClassId) {σ : rMem} {r : Nat} (hr : 3 ≤ r ∧ r < 45) (hm : rx_iM (σ r 3)) : rx_C l (rx_fin D b ca) y_Corr_receive b_Corr_receive 3 none (rx_rm 4) [.ref (rg_A (rx_fin D b ca) 66), .ref (rg_A (rx_fin D b ca) r)] σ none (sp_Corr_receive σ r) := by
  refine rx_of (lo := [(0, .ref (rg_A (rx_fin D b ca) 66)), (1, .ref (rg_A (rx_fin D b ca) r))]) (by decide) (rx_fin_D D b ca) rfl (Nat.le_of_ble_eq_true rfl) rfl ?_
  intro p e s mm below meth c C
  refine rx_aload_n C.1 (pc := 0) d_Corr_receive_0 rfl ?_
  refine g_Corr_38 D b ca C (by first | assumption | (constructor <;> omega) | omega | decide) (pc := 1) d_Corr_receive_1 ?_
  refine rx_istore_n C.1 (pc := 4) d_Corr_receive_4 (by decide) ?_
  refine rx_aload_n C.1 (pc := 5) d_Corr_receive_5 rfl ?_
  refine g_Corr_43 D b ca C (by first | assumption | (constructor <;> omega) | omega | decide) (pc := 6) d_Corr_receive_6 ?_
  refine rx_bipush C.1 (v := 6) (pc := 9) d_Corr_receive_9 (by decide) ?_
  refine rx_icmp_ne C.1 (pc := 11) d_Corr_receive_11 (tgt := 55) rfl (fun h1 => ?_) (fun h1 => ?_)
  ·
    exact rx_vret C (pc := 55) d_Corr_receive_55 (by unfold sp_Corr_receive; first | (simp only [if_neg h1]; done) | (simp only [if_neg h1]; rfl))
  ·
    refine rx_aload_n C.1 (pc := 14) d_Corr_receive_14 rfl ?_
    refine g_Corr_46 D b ca C (by first | assumption | (constructor <;> omega) | omega | decide) (pc := 15) d_Corr_receive_15 ?_
    refine rx_aload_n C.1 (pc := 18) d_Corr_receive_18 rfl ?_
    refine g_Corr_22 D b ca C (pc := 19) d_Corr_receive_19 ?_
    refine rx_iload_n C.1 (pc := 22) d_Corr_receive_22 rfl ?_
    refine rx_iald C (i := 69) (n := 2) (pc := 23) d_Corr_receive_23 (rx_lt (by decide)) rfl (by first | assumption | exact rx_in2 (by assumption) | exact rx_v02 | exact rx_v12) ?_
    refine rx_icmp_le C.1 (pc := 24) d_Corr_receive_24 (tgt := 55) rfl (fun h2 => ?_) (fun h2 => ?_)
    ·
      exact rx_vret C (pc := 55) d_Corr_receive_55 (by unfold sp_Corr_receive; first | (simp only [if_pos h1, if_pos h2]; done) | (simp only [if_pos h1, if_pos h2]; rfl))
    ·
      refine rx_aload_n C.1 (pc := 27) d_Corr_receive_27 rfl ?_
      refine g_Corr_22 D b ca C (pc := 28) d_Corr_receive_28 ?_
      refine rx_iload_n C.1 (pc := 31) d_Corr_receive_31 rfl ?_
      refine rx_aload_n C.1 (pc := 32) d_Corr_receive_32 rfl ?_
      refine g_Corr_46 D b ca C (by first | assumption | (constructor <;> omega) | omega | decide) (pc := 33) d_Corr_receive_33 ?_
      refine rx_iast C (i := 69) (n := 2) (pc := 36) d_Corr_receive_36 (rx_lt (by decide)) (fun _ => rfl) (by first | assumption | exact rx_in2 (by assumption) | exact rx_v02 | exact rx_v12) (rx_SI_wr (by omega)) ?_
      refine rx_aload_n C.1 (pc := 37) d_Corr_receive_37 rfl ?_
      refine g_Corr_25 D b ca C (pc := 38) d_Corr_receive_38 ?_
      refine rx_iload_n C.1 (pc := 41) d_Corr_receive_41 rfl ?_
      refine rx_aload_n C.1 (pc := 42) d_Corr_receive_42 rfl ?_
      refine g_Corr_9 D b ca C (pc := 43) d_Corr_receive_43 ?_
      refine g_Corr_34 D b ca C (pc := 46) d_Corr_receive_46 ?_
      refine rx_iast C (i := 70) (n := 2) (pc := 49) d_Corr_receive_49 (rx_lt (by decide)) (fun _ => rfl) (by first | assumption | exact rx_in2 (by assumption) | exact rx_v02 | exact rx_v12) (rx_SI_wr (by omega)) ?_
      refine rx_aload_n C.1 (pc := 50) d_Corr_receive_50 rfl ?_
      refine rx_iload_n C.1 (pc := 51) d_Corr_receive_51 rfl ?_
      refine q_Corr_49 D b ca C (pc := 52) d_Corr_receive_52 (c_Corr_pump l D b ca (by first | assumption | exact rx_iM0 | exact rx_iM1 | (constructor <;> omega))) ⟨Nat.le_of_ble_eq_true rfl, Nat.le_of_ble_eq_true rfl⟩ ⟨Nat.zero_le _, Nat.zero_le _⟩ (Nat.le_of_ble_eq_true rfl) ?_
      exact rx_vret C (pc := 55) d_Corr_receive_55 (by unfold sp_Corr_receive; first | (simp only [if_pos h1, if_neg h2]; done) | (simp only [if_pos h1, if_neg h2]; rfl))
end
section
def rx_t5 (t : Int32) : Prop := 0 ≤ t.toInt ∧ t.toInt ≤ 5
theorem rh_Wire {σ : rMem} {i : Int32} (h : ¬ rv_Wire_holds σ i = 0) : 0 ≤ i.toInt ∧ i.toInt < (σ 1 1).toInt := by
  unfold rv_Wire_holds at h
  by_cases h1 : i < 0
  · rw [if_pos h1] at h
    exact absurd rfl h
  · rw [if_neg h1] at h
    by_cases h2 : σ 1 1 ≤ i
    · rw [if_pos h2] at h
      exact absurd rfl h
    · rw [rx_ltI, rx_I0] at h1
      rw [rx_leI] at h2
      exact ⟨by omega, by omega⟩
theorem cp_ne {σ : rMem} {q r c : Nat} (h : c ≠ q) : sp_Msg_copyFrom σ q r c = σ c := by
  simp only [sp_Msg_copyFrom, rx_wr_ne h]
theorem cp_at {σ : rMem} {q r f : Nat} (h : r ≠ q) (hf : f < 9) : sp_Msg_copyFrom σ q r q f = σ r f := by
  simp only [sp_Msg_copyFrom, rx_wr_ne h]
  match f, hf with
  | 0, _ => simp [rx_wr, upd]
  | 1, _ => simp [rx_wr, upd]
  | 2, _ => simp [rx_wr, upd]
  | 3, _ => simp [rx_wr, upd]
  | 4, _ => simp [rx_wr, upd]
  | 5, _ => simp [rx_wr, upd]
  | 6, _ => simp [rx_wr, upd]
  | 7, _ => simp [rx_wr, upd]
  | 8, _ => simp [rx_wr, upd]
  | f + 9, hf => omega
theorem rm_fr {σ : rMem} {i : Int32} {c : Nat} (h1 : c ≠ 1) (h2 : c ≠ 2) : sp_Wire_remove σ i c = σ c := by
  unfold sp_Wire_remove
  rw [rx_wr_ne h2, rx_wr_ne h1, sh_ne h2]
theorem dl_at {σ : rMem} {i : Int32} {f : Nat} (hI : rx_SI σ) (g : 0 ≤ i.toInt ∧ i.toInt < (σ 1 1).toInt) (hf : f < 9) : sp_Wire_remove (sp_Msg_copyFrom σ 44 (2 + (σ 2 i.toNatClampNeg).toNatClampNeg)) i 44 f = σ (2 + (σ 2 i.toNatClampNeg).toNatClampNeg) f := by
  have h0 := rx_vn (rm_in hI g)
  have h1 := hI.2.1 _ h0
  have h2 := rx_cn (x := σ 2 i.toNatClampNeg) (by omega)
  rw [rm_fr (by omega) (by omega), cp_at (by omega) hf]
theorem dl_m {σ : rMem} {i : Int32} (hI : rx_SI σ) (g : 0 ≤ i.toInt ∧ i.toInt < (σ 1 1).toInt) (h : rx_iM (σ (2 + (σ 2 i.toNatClampNeg).toNatClampNeg) 3)) : rx_iM (sp_Wire_remove (sp_Msg_copyFrom σ 44 (2 + (σ 2 i.toNatClampNeg).toNatClampNeg)) i 44 3) := by
  rw [dl_at hI g (by omega)]
  exact h
theorem dl_t {σ : rMem} {i : Int32} (hI : rx_SI σ) (g : 0 ≤ i.toInt ∧ i.toInt < (σ 1 1).toInt) (h : rx_t5 (σ (2 + (σ 2 i.toNatClampNeg).toNatClampNeg) 1)) : rx_t5 (sp_Wire_remove (sp_Msg_copyFrom σ 44 (2 + (σ 2 i.toNatClampNeg).toNatClampNeg)) i 44 1) := by
  rw [dl_at hI g (by omega)]
  exact h
theorem ho_in {t : Int32} (ht : rx_t5 t) (h5 : ¬ t = 5) (h4 : ¬ t = 4) (h0 : ¬ t = 0) : vp_in (t - 1) 3 := by
  rw [rx_eqI] at h5 h4 h0
  have e5 : (5 : Int32).toInt = 5 := rfl
  have e4 : (4 : Int32).toInt = 4 := rfl
  rw [e5] at h5
  rw [e4] at h4
  rw [rx_I0] at h0
  obtain ⟨a, b⟩ := ht
  have e : (t - 1).toInt = t.toInt - 1 := by rw [rx_subI (by rw [rx_I1]; omega) (by rw [rx_I1]; omega), rx_I1]
  exact rx_vinI (by omega) (by omega)
theorem rm_Agent {a : Int32} (h : ¬ rv_Net_isAgent a = 0) : 0 ≤ a.toInt ∧ a.toInt ≤ 3 := by
  unfold rv_Net_isAgent rv_Net_isWithin at h
  by_cases h1 : a < 0
  · rw [if_pos h1] at h
    exact absurd rfl h
  · rw [if_neg h1] at h
    by_cases h2 : 3 < a
    · rw [if_pos h2] at h
      exact absurd rfl h
    · have e3 : (3 : Int32).toInt = 3 := rfl
      rw [rx_ltI] at h1 h2
      rw [rx_I0] at h1
      rw [e3] at h2
      exact ⟨by omega, by omega⟩
theorem ag_in {a : Int32} (h : ¬ rv_Net_isAgent a = 0) (h0 : ¬ a = 0) : vp_in (a - 1) 3 := by
  have h1 := rm_Agent h
  rw [rx_eqI, rx_I0] at h0
  have e : (a - 1).toInt = a.toInt - 1 := by rw [rx_subI (by rw [rx_I1]; omega) (by rw [rx_I1]; omega), rx_I1]
  exact rx_vinI (by omega) (by omega)
theorem sy_ok {x : Int32} (h : x < 200) : (x + 1).toInt ≤ 200 := by
  have e : (200 : Int32).toInt = 200 := rfl
  have h2 := rx_lo x
  rw [rx_ltI, e] at h
  rw [rx_addI (by rw [rx_I1]; omega) (by rw [rx_I1]; omega), rx_I1]
  omega
end
section
def sp_Net_key (σ : rMem) (sd : Int32) (m : Int32) (x : Int32) : rMem × Int32 := if (rv_Net_isMobile m) = 0 then (σ, 0) else (if (rv_Net_isWithin sd 0 1) = 0 then (σ, 0) else (if sd = 1 then (let m2 := rx_wr σ (46 + m.toNatClampNeg) 3 x; (m2, 1)) else (let m1 := rx_wr σ 49 m.toNatClampNeg x; (m1, 1))))
set_option maxHeartbeats 4000000 in
set_option maxRecDepth 100000 in
theorem c_Net_key (l : Launch) (D : va_G) (b : Nat) (ca : Nat → ClassId) {σ : rMem} {sd : Int32} {m : Int32} {x : Int32} : rx_C l (rx_fin D b ca) y_Net_key b_Net_key 4 (some .boolean) (rx_rm 2) [.ref (rg_A (rx_fin D b ca) 0), .int sd, .int m, .int x] σ (some (.int (sp_Net_key σ sd m x).2)) (sp_Net_key σ sd m x).1 := by
  refine rx_of (lo := [(0, .ref (rg_A (rx_fin D b ca) 0)), (1, .int sd), (2, .int m), (3, .int x)]) (by decide) (rx_fin_D D b ca) rfl (Nat.le_of_ble_eq_true rfl) rfl ?_
  intro p e s mm below meth c C
  refine rx_iload_n C.1 (pc := 0) d_Net_key_0 rfl ?_
  refine q_Net_63 C.1 (pc := 1) d_Net_key_1 (c_Net_isMobile l ) ⟨Nat.le_of_ble_eq_true rfl, Nat.le_of_ble_eq_true rfl⟩ ⟨Nat.zero_le _, Nat.zero_le _⟩ (Nat.le_of_ble_eq_true rfl) ?_
  refine rx_if_eq C.1 (pc := 4) d_Net_key_4 (tgt := 16) rfl (fun h1 => ?_) (fun h1 => ?_)
  ·
    refine rx_iconst C.1 (v := 0) (pc := 16) d_Net_key_16 (by decide) ?_
    exact rx_zret C (pc := 17) d_Net_key_17 (Or.inl rfl) (by unfold sp_Net_key; first | (simp only [if_pos h1]; done) | (simp only [if_pos h1]; rfl)) (by unfold sp_Net_key; first | (simp only [if_pos h1]; done) | (simp only [if_pos h1]; rfl))
  ·
    have g1 := rm_Net h1
    have j1 := rx_j2 g1
    refine rx_iload_n C.1 (pc := 7) d_Net_key_7 rfl ?_
    refine rx_iconst C.1 (v := 0) (pc := 8) d_Net_key_8 (by decide) ?_
    refine rx_iconst C.1 (v := 1) (pc := 9) d_Net_key_9 (by decide) ?_
    refine q_Net_11 C.1 (pc := 10) d_Net_key_10 (c_Net_isWithin l ) ⟨Nat.le_of_ble_eq_true rfl, Nat.le_of_ble_eq_true rfl⟩ ⟨Nat.zero_le _, Nat.zero_le _⟩ (Nat.le_of_ble_eq_true rfl) ?_
    refine rx_if_ne C.1 (pc := 13) d_Net_key_13 (tgt := 18) rfl (fun h2 => ?_) (fun h2 => ?_)
    ·
      refine rx_iload_n C.1 (pc := 18) d_Net_key_18 rfl ?_
      refine rx_iconst C.1 (v := 1) (pc := 19) d_Net_key_19 (by decide) ?_
      refine rx_icmp_ne C.1 (pc := 20) d_Net_key_20 (tgt := 36) rfl (fun h3 => ?_) (fun h3 => ?_)
      ·
        refine rx_aload_n C.1 (pc := 36) d_Net_key_36 rfl ?_
        refine g_Net_43 D b ca C (pc := 37) d_Net_key_37 ?_
        refine g_Net_71 D b ca C (pc := 40) d_Net_key_40 ?_
        refine rx_iload_n C.1 (pc := 43) d_Net_key_43 rfl ?_
        refine rx_iload_n C.1 (pc := 44) d_Net_key_44 rfl ?_
        refine rx_iast C (i := 49) (n := 2) (pc := 45) d_Net_key_45 (rx_lt (by decide)) (fun _ => rfl) (by first | assumption | exact rx_in2 (by assumption) | exact rx_v02 | exact rx_v12) (rx_SI_wr (by omega)) ?_
        refine rx_iconst C.1 (v := 1) (pc := 46) d_Net_key_46 (by decide) ?_
        exact rx_zret C (pc := 47) d_Net_key_47 (Or.inr rfl) (by unfold sp_Net_key; first | (simp only [if_neg h1, if_neg h2, if_neg h3]; done) | (simp only [if_neg h1, if_neg h2, if_neg h3]; rfl)) (by unfold sp_Net_key; first | (simp only [if_neg h1, if_neg h2, if_neg h3]; done) | (simp only [if_neg h1, if_neg h2, if_neg h3]; rfl))
      ·
        have hj := rx_j2 g1
        refine rx_aload_n C.1 (pc := 23) d_Net_key_23 rfl ?_
        refine g_Net_31 D b ca C (pc := 24) d_Net_key_24 ?_
        refine rx_iload_n C.1 (pc := 27) d_Net_key_27 rfl ?_
        refine rx_ald_mobs D b ca C (pc := 28) d_Net_key_28 (by first | assumption | exact rx_in2 (by assumption) | exact rx_v02 | exact rx_v12) ?_
        refine rx_iload_n C.1 (pc := 29) d_Net_key_29 rfl ?_
        refine p_Net_67 D b ca C (by first | assumption | (constructor <;> omega) | omega | decide) (pc := 30) d_Net_key_30 ?_
        refine rx_goto C.1 (pc := 33) d_Net_key_33 (tgt := 46) rfl ?_
        refine rx_iconst C.1 (v := 1) (pc := 46) d_Net_key_46 (by decide) ?_
        exact rx_zret C (pc := 47) d_Net_key_47 (Or.inr rfl) (by unfold sp_Net_key; first | (simp only [if_neg h1, if_neg h2, if_pos h3]; done) | (simp only [if_neg h1, if_neg h2, if_pos h3]; rfl)) (by unfold sp_Net_key; first | (simp only [if_neg h1, if_neg h2, if_pos h3]; done) | (simp only [if_neg h1, if_neg h2, if_pos h3]; rfl))
    ·
      refine rx_iconst C.1 (v := 0) (pc := 16) d_Net_key_16 (by decide) ?_
      exact rx_zret C (pc := 17) d_Net_key_17 (Or.inl rfl) (by unfold sp_Net_key; first | (simp only [if_neg h1, if_pos h2]; done) | (simp only [if_neg h1, if_pos h2]; rfl)) (by unfold sp_Net_key; first | (simp only [if_neg h1, if_pos h2]; done) | (simp only [if_neg h1, if_pos h2]; rfl))

def sp_Net_move (σ : rMem) (m : Int32) (x : Int32) : rMem × Int32 := if (rv_Net_isMobile m) = 0 then (σ, 0) else (if (rv_Net_isWithin x 0 4) = 0 then (σ, 0) else (let m1 := rx_wr σ (46 + m.toNatClampNeg) 4 x; (m1, 1)))
set_option maxHeartbeats 4000000 in
set_option maxRecDepth 100000 in
theorem c_Net_move (l : Launch) (D : va_G) (b : Nat) (ca : Nat → ClassId) {σ : rMem} {m : Int32} {x : Int32} : rx_C l (rx_fin D b ca) y_Net_move b_Net_move 3 (some .boolean) (rx_rm 2) [.ref (rg_A (rx_fin D b ca) 0), .int m, .int x] σ (some (.int (sp_Net_move σ m x).2)) (sp_Net_move σ m x).1 := by
  refine rx_of (lo := [(0, .ref (rg_A (rx_fin D b ca) 0)), (1, .int m), (2, .int x)]) (by decide) (rx_fin_D D b ca) rfl (Nat.le_of_ble_eq_true rfl) rfl ?_
  intro p e s mm below meth c C
  refine rx_iload_n C.1 (pc := 0) d_Net_move_0 rfl ?_
  refine q_Net_63 C.1 (pc := 1) d_Net_move_1 (c_Net_isMobile l ) ⟨Nat.le_of_ble_eq_true rfl, Nat.le_of_ble_eq_true rfl⟩ ⟨Nat.zero_le _, Nat.zero_le _⟩ (Nat.le_of_ble_eq_true rfl) ?_
  refine rx_if_eq C.1 (pc := 4) d_Net_move_4 (tgt := 16) rfl (fun h1 => ?_) (fun h1 => ?_)
  ·
    refine rx_iconst C.1 (v := 0) (pc := 16) d_Net_move_16 (by decide) ?_
    exact rx_zret C (pc := 17) d_Net_move_17 (Or.inl rfl) (by unfold sp_Net_move; first | (simp only [if_pos h1]; done) | (simp only [if_pos h1]; rfl)) (by unfold sp_Net_move; first | (simp only [if_pos h1]; done) | (simp only [if_pos h1]; rfl))
  ·
    have g1 := rm_Net h1
    have j1 := rx_j2 g1
    refine rx_iload_n C.1 (pc := 7) d_Net_move_7 rfl ?_
    refine rx_iconst C.1 (v := 0) (pc := 8) d_Net_move_8 (by decide) ?_
    refine rx_iconst C.1 (v := 4) (pc := 9) d_Net_move_9 (by decide) ?_
    refine q_Net_11 C.1 (pc := 10) d_Net_move_10 (c_Net_isWithin l ) ⟨Nat.le_of_ble_eq_true rfl, Nat.le_of_ble_eq_true rfl⟩ ⟨Nat.zero_le _, Nat.zero_le _⟩ (Nat.le_of_ble_eq_true rfl) ?_
    refine rx_if_ne C.1 (pc := 13) d_Net_move_13 (tgt := 18) rfl (fun h2 => ?_) (fun h2 => ?_)
    ·
      refine rx_aload_n C.1 (pc := 18) d_Net_move_18 rfl ?_
      refine g_Net_31 D b ca C (pc := 19) d_Net_move_19 ?_
      refine rx_iload_n C.1 (pc := 22) d_Net_move_22 rfl ?_
      refine rx_ald_mobs D b ca C (pc := 23) d_Net_move_23 (by first | assumption | exact rx_in2 (by assumption) | exact rx_v02 | exact rx_v12) ?_
      refine rx_iload_n C.1 (pc := 24) d_Net_move_24 rfl ?_
      refine p_Net_75 D b ca C (by first | assumption | (constructor <;> omega) | omega | decide) (pc := 25) d_Net_move_25 ?_
      refine rx_iconst C.1 (v := 1) (pc := 28) d_Net_move_28 (by decide) ?_
      exact rx_zret C (pc := 29) d_Net_move_29 (Or.inr rfl) (by unfold sp_Net_move; first | (simp only [if_neg h1, if_neg h2]; done) | (simp only [if_neg h1, if_neg h2]; rfl)) (by unfold sp_Net_move; first | (simp only [if_neg h1, if_neg h2]; done) | (simp only [if_neg h1, if_neg h2]; rfl))
    ·
      refine rx_iconst C.1 (v := 0) (pc := 16) d_Net_move_16 (by decide) ?_
      exact rx_zret C (pc := 17) d_Net_move_17 (Or.inl rfl) (by unfold sp_Net_move; first | (simp only [if_neg h1, if_pos h2]; done) | (simp only [if_neg h1, if_pos h2]; rfl)) (by unfold sp_Net_move; first | (simp only [if_neg h1, if_pos h2]; done) | (simp only [if_neg h1, if_pos h2]; rfl))

def sp_Net_say (σ : rMem) (m : Int32) : rMem × Int32 := if (rv_Net_isMobile m) = 0 then (σ, (-1)) else (if (σ 67 m.toNatClampNeg) < 200 then (let m1 := rx_wr σ 67 m.toNatClampNeg ((σ 67 m.toNatClampNeg) + 1); let m2 := sp_Corr_pump m1 m; (m2, (m2 67 m.toNatClampNeg))) else (σ, (-1)))
set_option maxHeartbeats 4000000 in
set_option maxRecDepth 100000 in
theorem c_Net_say (l : Launch) (D : va_G) (b : Nat) (ca : Nat → ClassId) {σ : rMem} {m : Int32} : rx_C l (rx_fin D b ca) y_Net_say b_Net_say 2 (some .int) (rx_rm 4) [.ref (rg_A (rx_fin D b ca) 0), .int m] σ (some (.int (sp_Net_say σ m).2)) (sp_Net_say σ m).1 := by
  refine rx_of (lo := [(0, .ref (rg_A (rx_fin D b ca) 0)), (1, .int m)]) (by decide) (rx_fin_D D b ca) rfl (Nat.le_of_ble_eq_true rfl) rfl ?_
  intro p e s mm below meth c C
  refine rx_iload_n C.1 (pc := 0) d_Net_say_0 rfl ?_
  refine q_Net_63 C.1 (pc := 1) d_Net_say_1 (c_Net_isMobile l ) ⟨Nat.le_of_ble_eq_true rfl, Nat.le_of_ble_eq_true rfl⟩ ⟨Nat.zero_le _, Nat.zero_le _⟩ (Nat.le_of_ble_eq_true rfl) ?_
  refine rx_if_eq C.1 (pc := 4) d_Net_say_4 (tgt := 22) rfl (fun h1 => ?_) (fun h1 => ?_)
  ·
    refine rx_iconst C.1 (v := (-1)) (pc := 22) d_Net_say_22 (by decide) ?_
    exact rx_iret C (pc := 23) d_Net_say_23 (by unfold sp_Net_say; first | (simp only [if_pos h1]; done) | (simp only [if_pos h1]; rfl)) (by unfold sp_Net_say; first | (simp only [if_pos h1]; done) | (simp only [if_pos h1]; rfl))
  ·
    have g1 := rm_Net h1
    have j1 := rx_j2 g1
    refine rx_aload_n C.1 (pc := 7) d_Net_say_7 rfl ?_
    refine g_Net_59 D b ca C (pc := 8) d_Net_say_8 ?_
    refine g_Net_81 D b ca C (pc := 11) d_Net_say_11 ?_
    refine rx_iload_n C.1 (pc := 14) d_Net_say_14 rfl ?_
    refine rx_iald C (i := 67) (n := 2) (pc := 15) d_Net_say_15 (rx_lt (by decide)) rfl (by first | assumption | exact rx_in2 (by assumption) | exact rx_v02 | exact rx_v12) ?_
    refine rx_sipush C.1 (v := 200) (pc := 16) d_Net_say_16 (by decide) ?_
    refine rx_icmp_lt C.1 (pc := 19) d_Net_say_19 (tgt := 24) rfl (fun h2 => ?_) (fun h2 => ?_)
    ·
      refine rx_aload_n C.1 (pc := 24) d_Net_say_24 rfl ?_
      refine g_Net_59 D b ca C (pc := 25) d_Net_say_25 ?_
      refine g_Net_81 D b ca C (pc := 28) d_Net_say_28 ?_
      refine rx_iload_n C.1 (pc := 31) d_Net_say_31 rfl ?_
      refine rx_dup2_11 C.1 (pc := 32) d_Net_say_32 rfl rfl ?_
      refine rx_iald C (i := 67) (n := 2) (pc := 33) d_Net_say_33 (rx_lt (by decide)) rfl (by first | assumption | exact rx_in2 (by assumption) | exact rx_v02 | exact rx_v12) ?_
      refine rx_iconst C.1 (v := 1) (pc := 34) d_Net_say_34 (by decide) ?_
      refine rx_iadd C.1 (pc := 35) d_Net_say_35 ?_
      have hz := sy_ok h2
      refine rx_iast C (i := 67) (n := 2) (pc := 36) d_Net_say_36 (rx_lt (by decide)) (fun _ => rfl) (by first | assumption | exact rx_in2 (by assumption) | exact rx_v02 | exact rx_v12) (rx_SI_cnt (by omega) hz) ?_
      refine rx_aload_n C.1 (pc := 37) d_Net_say_37 rfl ?_
      refine g_Net_59 D b ca C (pc := 38) d_Net_say_38 ?_
      refine rx_iload_n C.1 (pc := 41) d_Net_say_41 rfl ?_
      refine q_Net_84 D b ca C (pc := 42) d_Net_say_42 (c_Corr_pump l D b ca (by first | assumption | exact rx_iM0 | exact rx_iM1 | (constructor <;> omega))) ⟨Nat.le_of_ble_eq_true rfl, Nat.le_of_ble_eq_true rfl⟩ ⟨Nat.zero_le _, Nat.zero_le _⟩ (Nat.le_of_ble_eq_true rfl) ?_
      refine rx_aload_n C.1 (pc := 45) d_Net_say_45 rfl ?_
      refine g_Net_59 D b ca C (pc := 46) d_Net_say_46 ?_
      refine g_Net_81 D b ca C (pc := 49) d_Net_say_49 ?_
      refine rx_iload_n C.1 (pc := 52) d_Net_say_52 rfl ?_
      refine rx_iald C (i := 67) (n := 2) (pc := 53) d_Net_say_53 (rx_lt (by decide)) rfl (by first | assumption | exact rx_in2 (by assumption) | exact rx_v02 | exact rx_v12) ?_
      exact rx_iret C (pc := 54) d_Net_say_54 (by unfold sp_Net_say; first | (simp only [if_neg h1, if_pos h2]; done) | (simp only [if_neg h1, if_pos h2]; rfl)) (by unfold sp_Net_say; first | (simp only [if_neg h1, if_pos h2]; done) | (simp only [if_neg h1, if_pos h2]; rfl))
    ·
      refine rx_iconst C.1 (v := (-1)) (pc := 22) d_Net_say_22 (by decide) ?_
      exact rx_iret C (pc := 23) d_Net_say_23 (by unfold sp_Net_say; first | (simp only [if_neg h1, if_neg h2]; done) | (simp only [if_neg h1, if_neg h2]; rfl)) (by unfold sp_Net_say; first | (simp only [if_neg h1, if_neg h2]; done) | (simp only [if_neg h1, if_neg h2]; rfl))

def sp_Net_handOver (σ : rMem) (r : Nat) : rMem := if (σ r 1) = 5 then (let m4 := sp_Mob_receive σ ((σ r 3).toNatClampNeg) r; m4) else (if (σ r 1) = 4 then (let m3 := sp_Corr_receive σ r; m3) else (if (σ r 1) = 0 then (let m2 := sp_Home_receive σ r; m2) else (let m1 := sp_Fa_receive σ (((σ r 1) - 1).toNatClampNeg) r; m1)))
set_option maxHeartbeats 4000000 in
set_option maxRecDepth 100000 in
theorem c_Net_handOver (l : Launch) (D : va_G) (b : Nat) (ca : Nat → ClassId) {σ : rMem} {r : Nat} (hr : 3 ≤ r ∧ r < 45) (hm : rx_iM (σ r 3)) (ht : rx_t5 (σ r 1)) : rx_C l (rx_fin D b ca) y_Net_handOver b_Net_handOver 2 none (rx_rm 6) [.ref (rg_A (rx_fin D b ca) 0), .ref (rg_A (rx_fin D b ca) r)] σ none (sp_Net_handOver σ r) := by
  refine rx_of (lo := [(0, .ref (rg_A (rx_fin D b ca) 0)), (1, .ref (rg_A (rx_fin D b ca) r))]) (by decide) (rx_fin_D D b ca) rfl (Nat.le_of_ble_eq_true rfl) rfl ?_
  intro p e s mm below meth c C
  refine rx_aload_n C.1 (pc := 0) d_Net_handOver_0 rfl ?_
  refine g_Net_180 D b ca C (by first | assumption | (constructor <;> omega) | omega | decide) (pc := 1) d_Net_handOver_1 ?_
  refine rx_iconst C.1 (v := 5) (pc := 4) d_Net_handOver_4 (by decide) ?_
  refine rx_icmp_ne C.1 (pc := 5) d_Net_handOver_5 (tgt := 24) rfl (fun h1 => ?_) (fun h1 => ?_)
  ·
    refine rx_aload_n C.1 (pc := 24) d_Net_handOver_24 rfl ?_
    refine g_Net_180 D b ca C (by first | assumption | (constructor <;> omega) | omega | decide) (pc := 25) d_Net_handOver_25 ?_
    refine rx_iconst C.1 (v := 4) (pc := 28) d_Net_handOver_28 (by decide) ?_
    refine rx_icmp_ne C.1 (pc := 29) d_Net_handOver_29 (tgt := 43) rfl (fun h2 => ?_) (fun h2 => ?_)
    ·
      refine rx_aload_n C.1 (pc := 43) d_Net_handOver_43 rfl ?_
      refine g_Net_180 D b ca C (by first | assumption | (constructor <;> omega) | omega | decide) (pc := 44) d_Net_handOver_44 ?_
      refine rx_if_ne C.1 (pc := 47) d_Net_handOver_47 (tgt := 61) rfl (fun h3 => ?_) (fun h3 => ?_)
      ·
        refine rx_aload_n C.1 (pc := 61) d_Net_handOver_61 rfl ?_
        refine g_Net_49 D b ca C (pc := 62) d_Net_handOver_62 ?_
        refine rx_aload_n C.1 (pc := 65) d_Net_handOver_65 rfl ?_
        refine g_Net_180 D b ca C (by first | assumption | (constructor <;> omega) | omega | decide) (pc := 66) d_Net_handOver_66 ?_
        refine rx_iconst C.1 (v := 1) (pc := 69) d_Net_handOver_69 (by decide) ?_
        refine rx_isub C.1 (pc := 70) d_Net_handOver_70 ?_
        have ha1 := ho_in ht h1 h2 h3
        have ha := rx_vn ha1
        refine rx_ald_fas D b ca C (pc := 71) d_Net_handOver_71 ha1 ?_
        refine rx_aload_n C.1 (pc := 72) d_Net_handOver_72 rfl ?_
        refine q_Net_191 D b ca C (by first | assumption | (constructor <;> omega) | omega | decide) (pc := 73) d_Net_handOver_73 (c_Fa_receive l D b ca (by first | assumption | (constructor <;> omega) | omega | decide) (by first | assumption | exact rx_iM0 | exact rx_iM1 | (constructor <;> omega)) (by first | assumption | exact rx_iM0 | exact rx_iM1 | (constructor <;> omega))) ⟨Nat.le_of_ble_eq_true rfl, Nat.le_of_ble_eq_true rfl⟩ ⟨Nat.zero_le _, Nat.zero_le _⟩ (Nat.le_of_ble_eq_true rfl) ?_
        exact rx_vret C (pc := 76) d_Net_handOver_76 (by unfold sp_Net_handOver; first | (simp only [if_neg h1, if_neg h2, if_neg h3]; done) | (simp only [if_neg h1, if_neg h2, if_neg h3]; rfl))
      ·
        refine rx_aload_n C.1 (pc := 50) d_Net_handOver_50 rfl ?_
        refine g_Net_43 D b ca C (pc := 51) d_Net_handOver_51 ?_
        refine rx_aload_n C.1 (pc := 54) d_Net_handOver_54 rfl ?_
        refine q_Net_190 D b ca C (pc := 55) d_Net_handOver_55 (c_Home_receive l D b ca (by first | assumption | exact rx_iM0 | exact rx_iM1 | (constructor <;> omega)) (by first | assumption | exact rx_iM0 | exact rx_iM1 | (constructor <;> omega))) ⟨Nat.le_of_ble_eq_true rfl, Nat.le_of_ble_eq_true rfl⟩ ⟨Nat.zero_le _, Nat.zero_le _⟩ (Nat.le_of_ble_eq_true rfl) ?_
        refine rx_goto C.1 (pc := 58) d_Net_handOver_58 (tgt := 76) rfl ?_
        exact rx_vret C (pc := 76) d_Net_handOver_76 (by unfold sp_Net_handOver; first | (simp only [if_neg h1, if_neg h2, if_pos h3]; done) | (simp only [if_neg h1, if_neg h2, if_pos h3]; rfl))
    ·
      refine rx_aload_n C.1 (pc := 32) d_Net_handOver_32 rfl ?_
      refine g_Net_59 D b ca C (pc := 33) d_Net_handOver_33 ?_
      refine rx_aload_n C.1 (pc := 36) d_Net_handOver_36 rfl ?_
      refine q_Net_189 D b ca C (pc := 37) d_Net_handOver_37 (c_Corr_receive l D b ca (by first | assumption | exact rx_iM0 | exact rx_iM1 | (constructor <;> omega)) (by first | assumption | exact rx_iM0 | exact rx_iM1 | (constructor <;> omega))) ⟨Nat.le_of_ble_eq_true rfl, Nat.le_of_ble_eq_true rfl⟩ ⟨Nat.zero_le _, Nat.zero_le _⟩ (Nat.le_of_ble_eq_true rfl) ?_
      refine rx_goto C.1 (pc := 40) d_Net_handOver_40 (tgt := 76) rfl ?_
      exact rx_vret C (pc := 76) d_Net_handOver_76 (by unfold sp_Net_handOver; first | (simp only [if_neg h1, if_pos h2]; done) | (simp only [if_neg h1, if_pos h2]; rfl))
  ·
    have hj := rx_j2 hm
    refine rx_aload_n C.1 (pc := 8) d_Net_handOver_8 rfl ?_
    refine g_Net_31 D b ca C (pc := 9) d_Net_handOver_9 ?_
    refine rx_aload_n C.1 (pc := 12) d_Net_handOver_12 rfl ?_
    refine g_Net_183 D b ca C (by first | assumption | (constructor <;> omega) | omega | decide) (pc := 13) d_Net_handOver_13 ?_
    refine rx_ald_mobs D b ca C (pc := 16) d_Net_handOver_16 (by first | assumption | exact rx_in2 (by assumption) | exact rx_v02 | exact rx_v12) ?_
    refine rx_aload_n C.1 (pc := 17) d_Net_handOver_17 rfl ?_
    refine q_Net_186 D b ca C (by first | assumption | (constructor <;> omega) | omega | decide) (pc := 18) d_Net_handOver_18 (c_Mob_receive l D b ca (by first | assumption | (constructor <;> omega) | omega | decide) (by first | assumption | exact rx_iM0 | exact rx_iM1 | (constructor <;> omega))) ⟨Nat.le_of_ble_eq_true rfl, Nat.le_of_ble_eq_true rfl⟩ ⟨Nat.zero_le _, Nat.zero_le _⟩ (Nat.le_of_ble_eq_true rfl) ?_
    refine rx_goto C.1 (pc := 21) d_Net_handOver_21 (tgt := 76) rfl ?_
    exact rx_vret C (pc := 76) d_Net_handOver_76 (by unfold sp_Net_handOver; first | (simp only [if_pos h1]; done) | (simp only [if_pos h1]; rfl))

def sp_Net_deliver (σ : rMem) (i : Int32) : rMem × Int32 := if (rv_Wire_holds σ i) = 0 then (σ, 0) else (let m1 := sp_Msg_copyFrom σ 44 (2 + (σ 2 i.toNatClampNeg).toNatClampNeg); let m2 := sp_Wire_remove m1 i; let m3 := sp_Net_handOver m2 44; (m3, 1))
set_option maxHeartbeats 4000000 in
set_option maxRecDepth 100000 in
theorem c_Net_deliver (l : Launch) (D : va_G) (b : Nat) (ca : Nat → ClassId) {σ : rMem} {i : Int32} (hm : ¬ rv_Wire_holds σ i = 0 → rx_iM (σ (2 + (σ 2 i.toNatClampNeg).toNatClampNeg) 3) ∧ rx_t5 (σ (2 + (σ 2 i.toNatClampNeg).toNatClampNeg) 1)) : rx_C l (rx_fin D b ca) y_Net_deliver b_Net_deliver 2 (some .boolean) (rx_rm 7) [.ref (rg_A (rx_fin D b ca) 0), .int i] σ (some (.int (sp_Net_deliver σ i).2)) (sp_Net_deliver σ i).1 := by
  refine rx_of (lo := [(0, .ref (rg_A (rx_fin D b ca) 0)), (1, .int i)]) (by decide) (rx_fin_D D b ca) rfl (Nat.le_of_ble_eq_true rfl) rfl ?_
  intro p e s mm below meth c C
  refine rx_aload_n C.1 (pc := 0) d_Net_deliver_0 rfl ?_
  refine g_Net_18 D b ca C (pc := 1) d_Net_deliver_1 ?_
  refine rx_iload_n C.1 (pc := 4) d_Net_deliver_4 rfl ?_
  refine q_Net_88 D b ca C (pc := 5) d_Net_deliver_5 (c_Wire_holds l D b ca ) ⟨Nat.le_of_ble_eq_true rfl, Nat.le_of_ble_eq_true rfl⟩ ⟨Nat.zero_le _, Nat.zero_le _⟩ (Nat.le_of_ble_eq_true rfl) ?_
  refine rx_if_ne C.1 (pc := 8) d_Net_deliver_8 (tgt := 13) rfl (fun h1 => ?_) (fun h1 => ?_)
  ·
    have g1 := rh_Wire h1
    refine rx_si (fun hI => ?_)
    have hi41 := rm_in hI g1
    have hq0 := rx_rowq hI (rx_vn hi41)
    refine rx_aload_n C.1 (pc := 13) d_Net_deliver_13 rfl ?_
    refine g_Net_25 D b ca C (pc := 14) d_Net_deliver_14 ?_
    refine rx_aload_n C.1 (pc := 17) d_Net_deliver_17 rfl ?_
    refine g_Net_18 D b ca C (pc := 18) d_Net_deliver_18 ?_
    refine g_Net_91 D b ca C (pc := 21) d_Net_deliver_21 ?_
    refine rx_iload_n C.1 (pc := 24) d_Net_deliver_24 rfl ?_
    refine rx_ald_rows D b ca C (pc := 25) d_Net_deliver_25 hi41 ?_
    refine q_Net_95 D b ca C (by first | assumption | (constructor <;> omega) | omega | decide) (pc := 26) d_Net_deliver_26 (c_Msg_copyFrom l D b ca (by first | assumption | (constructor <;> omega) | omega | decide) (by first | assumption | exact rx_iM0 | exact rx_iM1 | (constructor <;> omega))) ⟨Nat.le_of_ble_eq_true rfl, Nat.le_of_ble_eq_true rfl⟩ ⟨Nat.zero_le _, Nat.zero_le _⟩ (Nat.le_of_ble_eq_true rfl) ?_
    refine rx_aload_n C.1 (pc := 29) d_Net_deliver_29 rfl ?_
    refine g_Net_18 D b ca C (pc := 30) d_Net_deliver_30 ?_
    refine rx_iload_n C.1 (pc := 33) d_Net_deliver_33 rfl ?_
    have g2 : 0 ≤ i.toInt ∧ i.toInt < (sp_Msg_copyFrom σ 44 (2 + (σ 2 i.toNatClampNeg).toNatClampNeg) 1 1).toInt := g1
    refine q_Net_99 D b ca C (pc := 34) d_Net_deliver_34 (c_Wire_remove l D b ca (by first | assumption | exact rx_iM0 | exact rx_iM1 | (constructor <;> omega))) ⟨Nat.le_of_ble_eq_true rfl, Nat.le_of_ble_eq_true rfl⟩ ⟨Nat.zero_le _, Nat.zero_le _⟩ (Nat.le_of_ble_eq_true rfl) ?_
    refine rx_aload_n C.1 (pc := 37) d_Net_deliver_37 rfl ?_
    refine rx_aload_n C.1 (pc := 38) d_Net_deliver_38 rfl ?_
    refine g_Net_25 D b ca C (pc := 39) d_Net_deliver_39 ?_
    have g3 := dl_m hI g1 (hm h1).1
    have g4 := dl_t hI g1 (hm h1).2
    refine q_Net_102 D b ca C (pc := 42) d_Net_deliver_42 (c_Net_handOver l D b ca (by first | assumption | exact rx_iM0 | exact rx_iM1 | (constructor <;> omega)) (by first | assumption | exact rx_iM0 | exact rx_iM1 | (constructor <;> omega)) (by first | assumption | exact rx_iM0 | exact rx_iM1 | (constructor <;> omega))) ⟨Nat.le_of_ble_eq_true rfl, Nat.le_of_ble_eq_true rfl⟩ ⟨Nat.zero_le _, Nat.zero_le _⟩ (Nat.le_of_ble_eq_true rfl) ?_
    refine rx_iconst C.1 (v := 1) (pc := 45) d_Net_deliver_45 (by decide) ?_
    exact rx_zret C (pc := 46) d_Net_deliver_46 (Or.inr rfl) (by unfold sp_Net_deliver; first | (simp only [if_neg h1]; done) | (simp only [if_neg h1]; rfl)) (by unfold sp_Net_deliver; first | (simp only [if_neg h1]; done) | (simp only [if_neg h1]; rfl))
  ·
    refine rx_iconst C.1 (v := 0) (pc := 11) d_Net_deliver_11 (by decide) ?_
    exact rx_zret C (pc := 12) d_Net_deliver_12 (Or.inl rfl) (by unfold sp_Net_deliver; first | (simp only [if_pos h1]; done) | (simp only [if_pos h1]; rfl)) (by unfold sp_Net_deliver; first | (simp only [if_pos h1]; done) | (simp only [if_pos h1]; rfl))

def sp_Net_drop (σ : rMem) (i : Int32) : rMem × Int32 := if (rv_Wire_holds σ i) = 0 then (σ, 0) else (let m1 := sp_Wire_remove σ i; (m1, 1))
set_option maxHeartbeats 4000000 in
set_option maxRecDepth 100000 in
theorem c_Net_drop (l : Launch) (D : va_G) (b : Nat) (ca : Nat → ClassId) {σ : rMem} {i : Int32} : rx_C l (rx_fin D b ca) y_Net_drop b_Net_drop 2 (some .boolean) (rx_rm 1) [.ref (rg_A (rx_fin D b ca) 0), .int i] σ (some (.int (sp_Net_drop σ i).2)) (sp_Net_drop σ i).1 := by
  refine rx_of (lo := [(0, .ref (rg_A (rx_fin D b ca) 0)), (1, .int i)]) (by decide) (rx_fin_D D b ca) rfl (Nat.le_of_ble_eq_true rfl) rfl ?_
  intro p e s mm below meth c C
  refine rx_aload_n C.1 (pc := 0) d_Net_drop_0 rfl ?_
  refine g_Net_18 D b ca C (pc := 1) d_Net_drop_1 ?_
  refine rx_iload_n C.1 (pc := 4) d_Net_drop_4 rfl ?_
  refine q_Net_88 D b ca C (pc := 5) d_Net_drop_5 (c_Wire_holds l D b ca ) ⟨Nat.le_of_ble_eq_true rfl, Nat.le_of_ble_eq_true rfl⟩ ⟨Nat.zero_le _, Nat.zero_le _⟩ (Nat.le_of_ble_eq_true rfl) ?_
  refine rx_if_ne C.1 (pc := 8) d_Net_drop_8 (tgt := 13) rfl (fun h1 => ?_) (fun h1 => ?_)
  ·
    have g1 := rh_Wire h1
    refine rx_aload_n C.1 (pc := 13) d_Net_drop_13 rfl ?_
    refine g_Net_18 D b ca C (pc := 14) d_Net_drop_14 ?_
    refine rx_iload_n C.1 (pc := 17) d_Net_drop_17 rfl ?_
    refine q_Net_99 D b ca C (pc := 18) d_Net_drop_18 (c_Wire_remove l D b ca (by first | assumption | exact rx_iM0 | exact rx_iM1 | (constructor <;> omega))) ⟨Nat.le_of_ble_eq_true rfl, Nat.le_of_ble_eq_true rfl⟩ ⟨Nat.zero_le _, Nat.zero_le _⟩ (Nat.le_of_ble_eq_true rfl) ?_
    refine rx_iconst C.1 (v := 1) (pc := 21) d_Net_drop_21 (by decide) ?_
    exact rx_zret C (pc := 22) d_Net_drop_22 (Or.inr rfl) (by unfold sp_Net_drop; first | (simp only [if_neg h1]; done) | (simp only [if_neg h1]; rfl)) (by unfold sp_Net_drop; first | (simp only [if_neg h1]; done) | (simp only [if_neg h1]; rfl))
  ·
    refine rx_iconst C.1 (v := 0) (pc := 11) d_Net_drop_11 (by decide) ?_
    exact rx_zret C (pc := 12) d_Net_drop_12 (Or.inl rfl) (by unfold sp_Net_drop; first | (simp only [if_pos h1]; done) | (simp only [if_pos h1]; rfl)) (by unfold sp_Net_drop; first | (simp only [if_pos h1]; done) | (simp only [if_pos h1]; rfl))

def sp_Net_duplicate (σ : rMem) (i : Int32) : rMem × Int32 := if (rv_Wire_holds σ i) = 0 then (σ, 0) else (if (rv_Wire_isFull σ) = 0 then (let m1 := (sp_Wire_nextRow σ).1; let m2 := sp_Msg_copyFrom m1 ((sp_Wire_nextRow σ).2) (2 + (m1 2 i.toNatClampNeg).toNatClampNeg); (m2, 1)) else (σ, 0))
set_option maxHeartbeats 4000000 in
set_option maxRecDepth 100000 in
theorem c_Net_duplicate (l : Launch) (D : va_G) (b : Nat) (ca : Nat → ClassId) {σ : rMem} {i : Int32} : rx_C l (rx_fin D b ca) y_Net_duplicate b_Net_duplicate 2 (some .boolean) (rx_rm 2) [.ref (rg_A (rx_fin D b ca) 0), .int i] σ (some (.int (sp_Net_duplicate σ i).2)) (sp_Net_duplicate σ i).1 := by
  refine rx_of (lo := [(0, .ref (rg_A (rx_fin D b ca) 0)), (1, .int i)]) (by decide) (rx_fin_D D b ca) rfl (Nat.le_of_ble_eq_true rfl) rfl ?_
  intro p e s mm below meth c C
  refine rx_aload_n C.1 (pc := 0) d_Net_duplicate_0 rfl ?_
  refine g_Net_18 D b ca C (pc := 1) d_Net_duplicate_1 ?_
  refine rx_iload_n C.1 (pc := 4) d_Net_duplicate_4 rfl ?_
  refine q_Net_88 D b ca C (pc := 5) d_Net_duplicate_5 (c_Wire_holds l D b ca ) ⟨Nat.le_of_ble_eq_true rfl, Nat.le_of_ble_eq_true rfl⟩ ⟨Nat.zero_le _, Nat.zero_le _⟩ (Nat.le_of_ble_eq_true rfl) ?_
  refine rx_if_eq C.1 (pc := 8) d_Net_duplicate_8 (tgt := 21) rfl (fun h1 => ?_) (fun h1 => ?_)
  ·
    refine rx_iconst C.1 (v := 0) (pc := 21) d_Net_duplicate_21 (by decide) ?_
    exact rx_zret C (pc := 22) d_Net_duplicate_22 (Or.inl rfl) (by unfold sp_Net_duplicate; first | (simp only [if_pos h1]; done) | (simp only [if_pos h1]; rfl)) (by unfold sp_Net_duplicate; first | (simp only [if_pos h1]; done) | (simp only [if_pos h1]; rfl))
  ·
    have g1 := rh_Wire h1
    refine rx_aload_n C.1 (pc := 11) d_Net_duplicate_11 rfl ?_
    refine g_Net_18 D b ca C (pc := 12) d_Net_duplicate_12 ?_
    refine q_Net_105 D b ca C (pc := 15) d_Net_duplicate_15 (c_Wire_isFull l D b ca ) ⟨Nat.le_of_ble_eq_true rfl, Nat.le_of_ble_eq_true rfl⟩ ⟨Nat.zero_le _, Nat.zero_le _⟩ (Nat.le_of_ble_eq_true rfl) ?_
    refine rx_if_eq C.1 (pc := 18) d_Net_duplicate_18 (tgt := 23) rfl (fun h2 => ?_) (fun h2 => ?_)
    ·
      refine rx_si (fun hI => ?_)
      have hi41 := rm_in hI g1
      have hq0 := rx_rowq hI (rx_vn hi41)
      refine rx_aload_n C.1 (pc := 23) d_Net_duplicate_23 rfl ?_
      refine g_Net_18 D b ca C (pc := 24) d_Net_duplicate_24 ?_
      refine q_Net_109 D b ca C (pc := 27) d_Net_duplicate_27 (c_Wire_nextRow l D b ca ) (fun hI => rq_Wire_nextRow hI) ⟨Nat.le_of_ble_eq_true rfl, Nat.le_of_ble_eq_true rfl⟩ ⟨Nat.zero_le _, Nat.zero_le _⟩ (Nat.le_of_ble_eq_true rfl) (fun hq3 => ?_)
      refine rx_aload_n C.1 (pc := 30) d_Net_duplicate_30 rfl ?_
      refine g_Net_18 D b ca C (pc := 31) d_Net_duplicate_31 ?_
      refine g_Net_91 D b ca C (pc := 34) d_Net_duplicate_34 ?_
      refine rx_iload_n C.1 (pc := 37) d_Net_duplicate_37 rfl ?_
      refine rx_ald_rows D b ca C (pc := 38) d_Net_duplicate_38 hi41 ?_
      refine rx_si (fun hI2 => ?_)
      have hq2 := rx_rowq hI2 (rx_vn hi41)
      refine q_Net_95 D b ca C (by first | assumption | (constructor <;> omega) | omega | decide) (pc := 39) d_Net_duplicate_39 (c_Msg_copyFrom l D b ca (by first | assumption | (constructor <;> omega) | omega | decide) (by first | assumption | exact rx_iM0 | exact rx_iM1 | (constructor <;> omega))) ⟨Nat.le_of_ble_eq_true rfl, Nat.le_of_ble_eq_true rfl⟩ ⟨Nat.zero_le _, Nat.zero_le _⟩ (Nat.le_of_ble_eq_true rfl) ?_
      refine rx_iconst C.1 (v := 1) (pc := 42) d_Net_duplicate_42 (by decide) ?_
      exact rx_zret C (pc := 43) d_Net_duplicate_43 (Or.inr rfl) (by unfold sp_Net_duplicate; first | (simp only [if_neg h1, if_pos h2]; done) | (simp only [if_neg h1, if_pos h2]; rfl)) (by unfold sp_Net_duplicate; first | (simp only [if_neg h1, if_pos h2]; done) | (simp only [if_neg h1, if_pos h2]; rfl))
    ·
      refine rx_iconst C.1 (v := 0) (pc := 21) d_Net_duplicate_21 (by decide) ?_
      exact rx_zret C (pc := 22) d_Net_duplicate_22 (Or.inl rfl) (by unfold sp_Net_duplicate; first | (simp only [if_neg h1, if_neg h2]; done) | (simp only [if_neg h1, if_neg h2]; rfl)) (by unfold sp_Net_duplicate; first | (simp only [if_neg h1, if_neg h2]; done) | (simp only [if_neg h1, if_neg h2]; rfl))

def sp_Net_inject (σ : rMem) (a : Int32) (m : Int32) (co : Int32) (lt : Int32) (id : Int32) (sl : Int32) : rMem × Int32 := if (rv_Net_isAgent a) = 0 then (σ, 0) else (if (rv_Net_isMobile m) = 0 then (σ, 0) else (if (rv_Net_isAgent co) = 0 then (σ, 0) else (if (rv_Net_isWithin lt 0 60) = 0 then (σ, 0) else (if (rv_Net_isWithin id 1 9999) = 0 then (σ, 0) else (if co = 0 then (if lt = 0 then (if (rv_Wire_isFull σ) = 0 then (let m5 := (sp_Wire_sendTo σ a 2 m id).1; let m6 := rx_wr m5 ((sp_Wire_sendTo σ a 2 m id).2) 5 co; let m7 := rx_wr m6 ((sp_Wire_sendTo σ a 2 m id).2) 7 lt; let m8 := rx_wr m7 ((sp_Wire_sendTo σ a 2 m id).2) 8 sl; (m8, 1)) else (σ, 0)) else (σ, 0)) else (if lt = 0 then (σ, 0) else (if (rv_Wire_isFull σ) = 0 then (let m1 := (sp_Wire_sendTo σ a 2 m id).1; let m2 := rx_wr m1 ((sp_Wire_sendTo σ a 2 m id).2) 5 co; let m3 := rx_wr m2 ((sp_Wire_sendTo σ a 2 m id).2) 7 lt; let m4 := rx_wr m3 ((sp_Wire_sendTo σ a 2 m id).2) 8 sl; (m4, 1)) else (σ, 0))))))))
set_option maxHeartbeats 4000000 in
set_option maxRecDepth 100000 in
theorem c_Net_inject (l : Launch) (D : va_G) (b : Nat) (ca : Nat → ClassId) {σ : rMem} {a : Int32} {m : Int32} {co : Int32} {lt : Int32} {id : Int32} {sl : Int32} : rx_C l (rx_fin D b ca) y_Net_inject b_Net_inject 8 (some .boolean) (rx_rm 3) [.ref (rg_A (rx_fin D b ca) 0), .int a, .int m, .int co, .int lt, .int id, .int sl] σ (some (.int (sp_Net_inject σ a m co lt id sl).2)) (sp_Net_inject σ a m co lt id sl).1 := by
  refine rx_of (lo := [(0, .ref (rg_A (rx_fin D b ca) 0)), (1, .int a), (2, .int m), (3, .int co), (4, .int lt), (5, .int id), (6, .int sl)]) (by decide) (rx_fin_D D b ca) rfl (Nat.le_of_ble_eq_true rfl) rfl ?_
  intro p e s mm below meth c C
  refine rx_iload_n C.1 (pc := 0) d_Net_inject_0 rfl ?_
  refine q_Net_113 C.1 (pc := 1) d_Net_inject_1 (c_Net_isAgent l ) ⟨Nat.le_of_ble_eq_true rfl, Nat.le_of_ble_eq_true rfl⟩ ⟨Nat.zero_le _, Nat.zero_le _⟩ (Nat.le_of_ble_eq_true rfl) ?_
  refine rx_if_eq C.1 (pc := 4) d_Net_inject_4 (tgt := 21) rfl (fun h1 => ?_) (fun h1 => ?_)
  ·
    refine rx_iconst C.1 (v := 0) (pc := 21) d_Net_inject_21 (by decide) ?_
    exact rx_zret C (pc := 22) d_Net_inject_22 (Or.inl rfl) (by unfold sp_Net_inject; first | (simp only [if_pos h1]; done) | (simp only [if_pos h1]; rfl)) (by unfold sp_Net_inject; first | (simp only [if_pos h1]; done) | (simp only [if_pos h1]; rfl))
  ·
    refine rx_iload_n C.1 (pc := 7) d_Net_inject_7 rfl ?_
    refine q_Net_63 C.1 (pc := 8) d_Net_inject_8 (c_Net_isMobile l ) ⟨Nat.le_of_ble_eq_true rfl, Nat.le_of_ble_eq_true rfl⟩ ⟨Nat.zero_le _, Nat.zero_le _⟩ (Nat.le_of_ble_eq_true rfl) ?_
    refine rx_if_eq C.1 (pc := 11) d_Net_inject_11 (tgt := 21) rfl (fun h2 => ?_) (fun h2 => ?_)
    ·
      refine rx_iconst C.1 (v := 0) (pc := 21) d_Net_inject_21 (by decide) ?_
      exact rx_zret C (pc := 22) d_Net_inject_22 (Or.inl rfl) (by unfold sp_Net_inject; first | (simp only [if_neg h1, if_pos h2]; done) | (simp only [if_neg h1, if_pos h2]; rfl)) (by unfold sp_Net_inject; first | (simp only [if_neg h1, if_pos h2]; done) | (simp only [if_neg h1, if_pos h2]; rfl))
    ·
      have g2 := rm_Net h2
      have j2 := rx_j2 g2
      refine rx_iload_n C.1 (pc := 14) d_Net_inject_14 rfl ?_
      refine q_Net_113 C.1 (pc := 15) d_Net_inject_15 (c_Net_isAgent l ) ⟨Nat.le_of_ble_eq_true rfl, Nat.le_of_ble_eq_true rfl⟩ ⟨Nat.zero_le _, Nat.zero_le _⟩ (Nat.le_of_ble_eq_true rfl) ?_
      refine rx_if_ne C.1 (pc := 18) d_Net_inject_18 (tgt := 23) rfl (fun h3 => ?_) (fun h3 => ?_)
      ·
        refine rx_iload C.1 (pc := 23) d_Net_inject_23 rfl ?_
        refine rx_iconst C.1 (v := 0) (pc := 25) d_Net_inject_25 (by decide) ?_
        refine rx_bipush C.1 (v := 60) (pc := 26) d_Net_inject_26 (by decide) ?_
        refine q_Net_11 C.1 (pc := 28) d_Net_inject_28 (c_Net_isWithin l ) ⟨Nat.le_of_ble_eq_true rfl, Nat.le_of_ble_eq_true rfl⟩ ⟨Nat.zero_le _, Nat.zero_le _⟩ (Nat.le_of_ble_eq_true rfl) ?_
        refine rx_if_eq C.1 (pc := 31) d_Net_inject_31 (tgt := 46) rfl (fun h4 => ?_) (fun h4 => ?_)
        ·
          refine rx_iconst C.1 (v := 0) (pc := 46) d_Net_inject_46 (by decide) ?_
          exact rx_zret C (pc := 47) d_Net_inject_47 (Or.inl rfl) (by unfold sp_Net_inject; first | (simp only [if_neg h1, if_neg h2, if_neg h3, if_pos h4]; done) | (simp only [if_neg h1, if_neg h2, if_neg h3, if_pos h4]; rfl)) (by unfold sp_Net_inject; first | (simp only [if_neg h1, if_neg h2, if_neg h3, if_pos h4]; done) | (simp only [if_neg h1, if_neg h2, if_neg h3, if_pos h4]; rfl))
        ·
          refine rx_iload C.1 (pc := 34) d_Net_inject_34 rfl ?_
          refine rx_iconst C.1 (v := 1) (pc := 36) d_Net_inject_36 (by decide) ?_
          refine rx_sipush C.1 (v := 9999) (pc := 37) d_Net_inject_37 (by decide) ?_
          refine q_Net_11 C.1 (pc := 40) d_Net_inject_40 (c_Net_isWithin l ) ⟨Nat.le_of_ble_eq_true rfl, Nat.le_of_ble_eq_true rfl⟩ ⟨Nat.zero_le _, Nat.zero_le _⟩ (Nat.le_of_ble_eq_true rfl) ?_
          refine rx_if_ne C.1 (pc := 43) d_Net_inject_43 (tgt := 48) rfl (fun h5 => ?_) (fun h5 => ?_)
          ·
            refine rx_iload_n C.1 (pc := 48) d_Net_inject_48 rfl ?_
            refine rx_if_ne C.1 (pc := 49) d_Net_inject_49 (tgt := 56) rfl (fun h6 => ?_) (fun h6 => ?_)
            ·
              refine rx_iconst C.1 (v := 0) (pc := 56) d_Net_inject_56 (by decide) ?_
              refine rx_iload C.1 (pc := 57) d_Net_inject_57 rfl ?_
              refine rx_if_ne C.1 (pc := 59) d_Net_inject_59 (tgt := 66) rfl (fun h7 => ?_) (fun h7 => ?_)
              ·
                refine rx_iconst C.1 (v := 0) (pc := 66) d_Net_inject_66 (by decide) ?_
                refine rx_icmp_ne C.1 (pc := 67) d_Net_inject_67 (tgt := 80) rfl (fun h9 => absurd h9 (by decide)) (fun _ => ?_)
                refine rx_aload_n C.1 (pc := 70) d_Net_inject_70 rfl ?_
                refine g_Net_18 D b ca C (pc := 71) d_Net_inject_71 ?_
                refine q_Net_105 D b ca C (pc := 74) d_Net_inject_74 (c_Wire_isFull l D b ca ) ⟨Nat.le_of_ble_eq_true rfl, Nat.le_of_ble_eq_true rfl⟩ ⟨Nat.zero_le _, Nat.zero_le _⟩ (Nat.le_of_ble_eq_true rfl) ?_
                refine rx_if_eq C.1 (pc := 77) d_Net_inject_77 (tgt := 82) rfl (fun h8 => ?_) (fun h8 => ?_)
                ·
                  refine rx_aload_n C.1 (pc := 82) d_Net_inject_82 rfl ?_
                  refine g_Net_18 D b ca C (pc := 83) d_Net_inject_83 ?_
                  refine rx_iload_n C.1 (pc := 86) d_Net_inject_86 rfl ?_
                  refine rx_iconst C.1 (v := 2) (pc := 87) d_Net_inject_87 (by decide) ?_
                  refine rx_iload_n C.1 (pc := 88) d_Net_inject_88 rfl ?_
                  refine rx_iload C.1 (pc := 89) d_Net_inject_89 rfl ?_
                  refine q_Net_116 D b ca C (pc := 91) d_Net_inject_91 (c_Wire_sendTo l D b ca ) (fun hI => rq_Wire_sendTo hI) ⟨Nat.le_of_ble_eq_true rfl, Nat.le_of_ble_eq_true rfl⟩ ⟨Nat.zero_le _, Nat.zero_le _⟩ (Nat.le_of_ble_eq_true rfl) (fun hq2 => ?_)
                  refine rx_astore C.1 (pc := 94) d_Net_inject_94 (by decide) ?_
                  refine rx_aload C.1 (pc := 96) d_Net_inject_96 rfl ?_
                  refine rx_iload_n C.1 (pc := 98) d_Net_inject_98 rfl ?_
                  refine p_Net_120 D b ca C (by first | assumption | (constructor <;> omega) | omega | decide) (pc := 99) d_Net_inject_99 ?_
                  refine rx_aload C.1 (pc := 102) d_Net_inject_102 rfl ?_
                  refine rx_iload C.1 (pc := 104) d_Net_inject_104 rfl ?_
                  refine p_Net_123 D b ca C (by first | assumption | (constructor <;> omega) | omega | decide) (pc := 106) d_Net_inject_106 ?_
                  refine rx_aload C.1 (pc := 109) d_Net_inject_109 rfl ?_
                  refine rx_iload C.1 (pc := 111) d_Net_inject_111 rfl ?_
                  refine p_Net_126 D b ca C (by first | assumption | (constructor <;> omega) | omega | decide) (pc := 113) d_Net_inject_113 ?_
                  refine rx_iconst C.1 (v := 1) (pc := 116) d_Net_inject_116 (by decide) ?_
                  exact rx_zret C (pc := 117) d_Net_inject_117 (Or.inr rfl) (by unfold sp_Net_inject; first | (simp only [if_neg h1, if_neg h2, if_neg h3, if_neg h4, if_neg h5, if_neg h6, if_neg h7, if_pos h8]; done) | (simp only [if_neg h1, if_neg h2, if_neg h3, if_neg h4, if_neg h5, if_neg h6, if_neg h7, if_pos h8]; rfl)) (by unfold sp_Net_inject; first | (simp only [if_neg h1, if_neg h2, if_neg h3, if_neg h4, if_neg h5, if_neg h6, if_neg h7, if_pos h8]; done) | (simp only [if_neg h1, if_neg h2, if_neg h3, if_neg h4, if_neg h5, if_neg h6, if_neg h7, if_pos h8]; rfl))
                ·
                  refine rx_iconst C.1 (v := 0) (pc := 80) d_Net_inject_80 (by decide) ?_
                  exact rx_zret C (pc := 81) d_Net_inject_81 (Or.inl rfl) (by unfold sp_Net_inject; first | (simp only [if_neg h1, if_neg h2, if_neg h3, if_neg h4, if_neg h5, if_neg h6, if_neg h7, if_neg h8]; done) | (simp only [if_neg h1, if_neg h2, if_neg h3, if_neg h4, if_neg h5, if_neg h6, if_neg h7, if_neg h8]; rfl)) (by unfold sp_Net_inject; first | (simp only [if_neg h1, if_neg h2, if_neg h3, if_neg h4, if_neg h5, if_neg h6, if_neg h7, if_neg h8]; done) | (simp only [if_neg h1, if_neg h2, if_neg h3, if_neg h4, if_neg h5, if_neg h6, if_neg h7, if_neg h8]; rfl))
              ·
                refine rx_iconst C.1 (v := 1) (pc := 62) d_Net_inject_62 (by decide) ?_
                refine rx_goto C.1 (pc := 63) d_Net_inject_63 (tgt := 67) rfl ?_
                refine rx_icmp_ne C.1 (pc := 67) d_Net_inject_67 (tgt := 80) rfl (fun _ => ?_) (fun h9 => absurd h9 (by decide))
                refine rx_iconst C.1 (v := 0) (pc := 80) d_Net_inject_80 (by decide) ?_
                exact rx_zret C (pc := 81) d_Net_inject_81 (Or.inl rfl) (by unfold sp_Net_inject; first | (simp only [if_neg h1, if_neg h2, if_neg h3, if_neg h4, if_neg h5, if_neg h6, if_pos h7]; done) | (simp only [if_neg h1, if_neg h2, if_neg h3, if_neg h4, if_neg h5, if_neg h6, if_pos h7]; rfl)) (by unfold sp_Net_inject; first | (simp only [if_neg h1, if_neg h2, if_neg h3, if_neg h4, if_neg h5, if_neg h6, if_pos h7]; done) | (simp only [if_neg h1, if_neg h2, if_neg h3, if_neg h4, if_neg h5, if_neg h6, if_pos h7]; rfl))
            ·
              refine rx_iconst C.1 (v := 1) (pc := 52) d_Net_inject_52 (by decide) ?_
              refine rx_goto C.1 (pc := 53) d_Net_inject_53 (tgt := 57) rfl ?_
              refine rx_iload C.1 (pc := 57) d_Net_inject_57 rfl ?_
              refine rx_if_ne C.1 (pc := 59) d_Net_inject_59 (tgt := 66) rfl (fun h9 => ?_) (fun h9 => ?_)
              ·
                refine rx_iconst C.1 (v := 0) (pc := 66) d_Net_inject_66 (by decide) ?_
                refine rx_icmp_ne C.1 (pc := 67) d_Net_inject_67 (tgt := 80) rfl (fun _ => ?_) (fun h9 => absurd h9 (by decide))
                refine rx_iconst C.1 (v := 0) (pc := 80) d_Net_inject_80 (by decide) ?_
                exact rx_zret C (pc := 81) d_Net_inject_81 (Or.inl rfl) (by unfold sp_Net_inject; first | (simp only [if_neg h1, if_neg h2, if_neg h3, if_neg h4, if_neg h5, if_pos h6, if_neg h9]; done) | (simp only [if_neg h1, if_neg h2, if_neg h3, if_neg h4, if_neg h5, if_pos h6, if_neg h9]; rfl)) (by unfold sp_Net_inject; first | (simp only [if_neg h1, if_neg h2, if_neg h3, if_neg h4, if_neg h5, if_pos h6, if_neg h9]; done) | (simp only [if_neg h1, if_neg h2, if_neg h3, if_neg h4, if_neg h5, if_pos h6, if_neg h9]; rfl))
              ·
                refine rx_iconst C.1 (v := 1) (pc := 62) d_Net_inject_62 (by decide) ?_
                refine rx_goto C.1 (pc := 63) d_Net_inject_63 (tgt := 67) rfl ?_
                refine rx_icmp_ne C.1 (pc := 67) d_Net_inject_67 (tgt := 80) rfl (fun h9 => absurd h9 (by decide)) (fun _ => ?_)
                refine rx_aload_n C.1 (pc := 70) d_Net_inject_70 rfl ?_
                refine g_Net_18 D b ca C (pc := 71) d_Net_inject_71 ?_
                refine q_Net_105 D b ca C (pc := 74) d_Net_inject_74 (c_Wire_isFull l D b ca ) ⟨Nat.le_of_ble_eq_true rfl, Nat.le_of_ble_eq_true rfl⟩ ⟨Nat.zero_le _, Nat.zero_le _⟩ (Nat.le_of_ble_eq_true rfl) ?_
                refine rx_if_eq C.1 (pc := 77) d_Net_inject_77 (tgt := 82) rfl (fun h10 => ?_) (fun h10 => ?_)
                ·
                  refine rx_aload_n C.1 (pc := 82) d_Net_inject_82 rfl ?_
                  refine g_Net_18 D b ca C (pc := 83) d_Net_inject_83 ?_
                  refine rx_iload_n C.1 (pc := 86) d_Net_inject_86 rfl ?_
                  refine rx_iconst C.1 (v := 2) (pc := 87) d_Net_inject_87 (by decide) ?_
                  refine rx_iload_n C.1 (pc := 88) d_Net_inject_88 rfl ?_
                  refine rx_iload C.1 (pc := 89) d_Net_inject_89 rfl ?_
                  refine q_Net_116 D b ca C (pc := 91) d_Net_inject_91 (c_Wire_sendTo l D b ca ) (fun hI => rq_Wire_sendTo hI) ⟨Nat.le_of_ble_eq_true rfl, Nat.le_of_ble_eq_true rfl⟩ ⟨Nat.zero_le _, Nat.zero_le _⟩ (Nat.le_of_ble_eq_true rfl) (fun hq4 => ?_)
                  refine rx_astore C.1 (pc := 94) d_Net_inject_94 (by decide) ?_
                  refine rx_aload C.1 (pc := 96) d_Net_inject_96 rfl ?_
                  refine rx_iload_n C.1 (pc := 98) d_Net_inject_98 rfl ?_
                  refine p_Net_120 D b ca C (by first | assumption | (constructor <;> omega) | omega | decide) (pc := 99) d_Net_inject_99 ?_
                  refine rx_aload C.1 (pc := 102) d_Net_inject_102 rfl ?_
                  refine rx_iload C.1 (pc := 104) d_Net_inject_104 rfl ?_
                  refine p_Net_123 D b ca C (by first | assumption | (constructor <;> omega) | omega | decide) (pc := 106) d_Net_inject_106 ?_
                  refine rx_aload C.1 (pc := 109) d_Net_inject_109 rfl ?_
                  refine rx_iload C.1 (pc := 111) d_Net_inject_111 rfl ?_
                  refine p_Net_126 D b ca C (by first | assumption | (constructor <;> omega) | omega | decide) (pc := 113) d_Net_inject_113 ?_
                  refine rx_iconst C.1 (v := 1) (pc := 116) d_Net_inject_116 (by decide) ?_
                  exact rx_zret C (pc := 117) d_Net_inject_117 (Or.inr rfl) (by unfold sp_Net_inject; first | (simp only [if_neg h1, if_neg h2, if_neg h3, if_neg h4, if_neg h5, if_pos h6, if_pos h9, if_pos h10]; done) | (simp only [if_neg h1, if_neg h2, if_neg h3, if_neg h4, if_neg h5, if_pos h6, if_pos h9, if_pos h10]; rfl)) (by unfold sp_Net_inject; first | (simp only [if_neg h1, if_neg h2, if_neg h3, if_neg h4, if_neg h5, if_pos h6, if_pos h9, if_pos h10]; done) | (simp only [if_neg h1, if_neg h2, if_neg h3, if_neg h4, if_neg h5, if_pos h6, if_pos h9, if_pos h10]; rfl))
                ·
                  refine rx_iconst C.1 (v := 0) (pc := 80) d_Net_inject_80 (by decide) ?_
                  exact rx_zret C (pc := 81) d_Net_inject_81 (Or.inl rfl) (by unfold sp_Net_inject; first | (simp only [if_neg h1, if_neg h2, if_neg h3, if_neg h4, if_neg h5, if_pos h6, if_pos h9, if_neg h10]; done) | (simp only [if_neg h1, if_neg h2, if_neg h3, if_neg h4, if_neg h5, if_pos h6, if_pos h9, if_neg h10]; rfl)) (by unfold sp_Net_inject; first | (simp only [if_neg h1, if_neg h2, if_neg h3, if_neg h4, if_neg h5, if_pos h6, if_pos h9, if_neg h10]; done) | (simp only [if_neg h1, if_neg h2, if_neg h3, if_neg h4, if_neg h5, if_pos h6, if_pos h9, if_neg h10]; rfl))
          ·
            refine rx_iconst C.1 (v := 0) (pc := 46) d_Net_inject_46 (by decide) ?_
            exact rx_zret C (pc := 47) d_Net_inject_47 (Or.inl rfl) (by unfold sp_Net_inject; first | (simp only [if_neg h1, if_neg h2, if_neg h3, if_neg h4, if_pos h5]; done) | (simp only [if_neg h1, if_neg h2, if_neg h3, if_neg h4, if_pos h5]; rfl)) (by unfold sp_Net_inject; first | (simp only [if_neg h1, if_neg h2, if_neg h3, if_neg h4, if_pos h5]; done) | (simp only [if_neg h1, if_neg h2, if_neg h3, if_neg h4, if_pos h5]; rfl))
      ·
        refine rx_iconst C.1 (v := 0) (pc := 21) d_Net_inject_21 (by decide) ?_
        exact rx_zret C (pc := 22) d_Net_inject_22 (Or.inl rfl) (by unfold sp_Net_inject; first | (simp only [if_neg h1, if_neg h2, if_pos h3]; done) | (simp only [if_neg h1, if_neg h2, if_pos h3]; rfl)) (by unfold sp_Net_inject; first | (simp only [if_neg h1, if_neg h2, if_pos h3]; done) | (simp only [if_neg h1, if_neg h2, if_pos h3]; rfl))

def rv_Net_messages (σ : rMem)  : Int32 := (σ 1 1)
set_option maxHeartbeats 4000000 in
set_option maxRecDepth 100000 in
theorem c_Net_messages (l : Launch) (D : va_G) (b : Nat) (ca : Nat → ClassId) {σ : rMem}  : rx_C l (rx_fin D b ca) y_Net_messages b_Net_messages 1 (some .int) (rx_rm 0) [.ref (rg_A (rx_fin D b ca) 0)] σ (some (.int (rv_Net_messages σ))) σ := by
  refine rx_of (lo := [(0, .ref (rg_A (rx_fin D b ca) 0))]) (by decide) (rx_fin_D D b ca) rfl (Nat.le_of_ble_eq_true rfl) rfl ?_
  intro p e s mm below meth c C
  refine rx_aload_n C.1 (pc := 0) d_Net_messages_0 rfl ?_
  refine g_Net_18 D b ca C (pc := 1) d_Net_messages_1 ?_
  refine g_Net_129 D b ca C (pc := 4) d_Net_messages_4 ?_
  exact rx_iret C (pc := 7) d_Net_messages_7 (by first | rfl | (unfold rv_Net_messages; rfl)) rfl

def rv_Net_message (σ : rMem) (i : Int32) : Int32 := if (rv_Wire_holds σ i) = 0 then (-1) else (rv_Msg_summary σ (2 + (σ 2 i.toNatClampNeg).toNatClampNeg))
set_option maxHeartbeats 4000000 in
set_option maxRecDepth 100000 in
theorem c_Net_message (l : Launch) (D : va_G) (b : Nat) (ca : Nat → ClassId) {σ : rMem} {i : Int32} : rx_C l (rx_fin D b ca) y_Net_message b_Net_message 2 (some .int) (rx_rm 1) [.ref (rg_A (rx_fin D b ca) 0), .int i] σ (some (.int (rv_Net_message σ i))) σ := by
  refine rx_of (lo := [(0, .ref (rg_A (rx_fin D b ca) 0)), (1, .int i)]) (by decide) (rx_fin_D D b ca) rfl (Nat.le_of_ble_eq_true rfl) rfl ?_
  intro p e s mm below meth c C
  refine rx_aload_n C.1 (pc := 0) d_Net_message_0 rfl ?_
  refine g_Net_18 D b ca C (pc := 1) d_Net_message_1 ?_
  refine rx_iload_n C.1 (pc := 4) d_Net_message_4 rfl ?_
  refine q_Net_88 D b ca C (pc := 5) d_Net_message_5 (c_Wire_holds l D b ca ) ⟨Nat.le_of_ble_eq_true rfl, Nat.le_of_ble_eq_true rfl⟩ ⟨Nat.zero_le _, Nat.zero_le _⟩ (Nat.le_of_ble_eq_true rfl) ?_
  refine rx_if_eq C.1 (pc := 8) d_Net_message_8 (tgt := 26) rfl (fun h1 => ?_) (fun h1 => ?_)
  ·
    refine rx_iconst C.1 (v := (-1)) (pc := 26) d_Net_message_26 (by decide) ?_
    exact rx_iret C (pc := 27) d_Net_message_27 (by unfold rv_Net_message; first | (simp only [if_pos h1]; done) | (simp only [if_pos h1]; rfl)) rfl
  ·
    have g1 := rh_Wire h1
    refine rx_si (fun hI => ?_)
    have hi41 := rm_in hI g1
    have hq0 := rx_rowq hI (rx_vn hi41)
    refine rx_aload_n C.1 (pc := 11) d_Net_message_11 rfl ?_
    refine g_Net_18 D b ca C (pc := 12) d_Net_message_12 ?_
    refine g_Net_91 D b ca C (pc := 15) d_Net_message_15 ?_
    refine rx_iload_n C.1 (pc := 18) d_Net_message_18 rfl ?_
    refine rx_ald_rows D b ca C (pc := 19) d_Net_message_19 hi41 ?_
    refine q_Net_132 D b ca C (by first | assumption | (constructor <;> omega) | omega | decide) (pc := 20) d_Net_message_20 (c_Msg_summary l D b ca (by first | assumption | (constructor <;> omega) | omega | decide) ) ⟨Nat.le_of_ble_eq_true rfl, Nat.le_of_ble_eq_true rfl⟩ ⟨Nat.zero_le _, Nat.zero_le _⟩ (Nat.le_of_ble_eq_true rfl) ?_
    refine rx_goto C.1 (pc := 23) d_Net_message_23 (tgt := 27) rfl ?_
    exact rx_iret C (pc := 27) d_Net_message_27 (by unfold rv_Net_message; first | (simp only [if_neg h1]; done) | (simp only [if_neg h1]; rfl)) rfl

def rv_Net_place (σ : rMem) (m : Int32) : Int32 := if (rv_Net_isMobile m) = 0 then (-1) else (σ (46 + m.toNatClampNeg) 4)
set_option maxHeartbeats 4000000 in
set_option maxRecDepth 100000 in
theorem c_Net_place (l : Launch) (D : va_G) (b : Nat) (ca : Nat → ClassId) {σ : rMem} {m : Int32} : rx_C l (rx_fin D b ca) y_Net_place b_Net_place 2 (some .int) (rx_rm 2) [.ref (rg_A (rx_fin D b ca) 0), .int m] σ (some (.int (rv_Net_place σ m))) σ := by
  refine rx_of (lo := [(0, .ref (rg_A (rx_fin D b ca) 0)), (1, .int m)]) (by decide) (rx_fin_D D b ca) rfl (Nat.le_of_ble_eq_true rfl) rfl ?_
  intro p e s mm below meth c C
  refine rx_iload_n C.1 (pc := 0) d_Net_place_0 rfl ?_
  refine q_Net_63 C.1 (pc := 1) d_Net_place_1 (c_Net_isMobile l ) ⟨Nat.le_of_ble_eq_true rfl, Nat.le_of_ble_eq_true rfl⟩ ⟨Nat.zero_le _, Nat.zero_le _⟩ (Nat.le_of_ble_eq_true rfl) ?_
  refine rx_if_eq C.1 (pc := 4) d_Net_place_4 (tgt := 19) rfl (fun h1 => ?_) (fun h1 => ?_)
  ·
    refine rx_iconst C.1 (v := (-1)) (pc := 19) d_Net_place_19 (by decide) ?_
    exact rx_iret C (pc := 20) d_Net_place_20 (by unfold rv_Net_place; first | (simp only [if_pos h1]; done) | (simp only [if_pos h1]; rfl)) rfl
  ·
    have g1 := rm_Net h1
    have j1 := rx_j2 g1
    have hj := rx_j2 g1
    refine rx_aload_n C.1 (pc := 7) d_Net_place_7 rfl ?_
    refine g_Net_31 D b ca C (pc := 8) d_Net_place_8 ?_
    refine rx_iload_n C.1 (pc := 11) d_Net_place_11 rfl ?_
    refine rx_ald_mobs D b ca C (pc := 12) d_Net_place_12 (by first | assumption | exact rx_in2 (by assumption) | exact rx_v02 | exact rx_v12) ?_
    refine g_Net_75 D b ca C (by first | assumption | (constructor <;> omega) | omega | decide) (pc := 13) d_Net_place_13 ?_
    refine rx_goto C.1 (pc := 16) d_Net_place_16 (tgt := 20) rfl ?_
    exact rx_iret C (pc := 20) d_Net_place_20 (by unfold rv_Net_place; first | (simp only [if_neg h1]; done) | (simp only [if_neg h1]; rfl)) rfl

def rv_Net_registered (σ : rMem) (m : Int32) : Int32 := if (rv_Net_isMobile m) = 0 then (-1) else (σ (46 + m.toNatClampNeg) 6)
set_option maxHeartbeats 4000000 in
set_option maxRecDepth 100000 in
theorem c_Net_registered (l : Launch) (D : va_G) (b : Nat) (ca : Nat → ClassId) {σ : rMem} {m : Int32} : rx_C l (rx_fin D b ca) y_Net_registered b_Net_registered 2 (some .int) (rx_rm 2) [.ref (rg_A (rx_fin D b ca) 0), .int m] σ (some (.int (rv_Net_registered σ m))) σ := by
  refine rx_of (lo := [(0, .ref (rg_A (rx_fin D b ca) 0)), (1, .int m)]) (by decide) (rx_fin_D D b ca) rfl (Nat.le_of_ble_eq_true rfl) rfl ?_
  intro p e s mm below meth c C
  refine rx_iload_n C.1 (pc := 0) d_Net_registered_0 rfl ?_
  refine q_Net_63 C.1 (pc := 1) d_Net_registered_1 (c_Net_isMobile l ) ⟨Nat.le_of_ble_eq_true rfl, Nat.le_of_ble_eq_true rfl⟩ ⟨Nat.zero_le _, Nat.zero_le _⟩ (Nat.le_of_ble_eq_true rfl) ?_
  refine rx_if_eq C.1 (pc := 4) d_Net_registered_4 (tgt := 19) rfl (fun h1 => ?_) (fun h1 => ?_)
  ·
    refine rx_iconst C.1 (v := (-1)) (pc := 19) d_Net_registered_19 (by decide) ?_
    exact rx_iret C (pc := 20) d_Net_registered_20 (by unfold rv_Net_registered; first | (simp only [if_pos h1]; done) | (simp only [if_pos h1]; rfl)) rfl
  ·
    have g1 := rm_Net h1
    have j1 := rx_j2 g1
    have hj := rx_j2 g1
    refine rx_aload_n C.1 (pc := 7) d_Net_registered_7 rfl ?_
    refine g_Net_31 D b ca C (pc := 8) d_Net_registered_8 ?_
    refine rx_iload_n C.1 (pc := 11) d_Net_registered_11 rfl ?_
    refine rx_ald_mobs D b ca C (pc := 12) d_Net_registered_12 (by first | assumption | exact rx_in2 (by assumption) | exact rx_v02 | exact rx_v12) ?_
    refine g_Net_136 D b ca C (by first | assumption | (constructor <;> omega) | omega | decide) (pc := 13) d_Net_registered_13 ?_
    refine rx_goto C.1 (pc := 16) d_Net_registered_16 (tgt := 20) rfl ?_
    exact rx_iret C (pc := 20) d_Net_registered_20 (by unfold rv_Net_registered; first | (simp only [if_neg h1]; done) | (simp only [if_neg h1]; rfl)) rfl

def rv_Net_open (σ : rMem) (m : Int32) : Int32 := if (rv_Net_isMobile m) = 0 then 0 else (σ (46 + m.toNatClampNeg) 10)
set_option maxHeartbeats 4000000 in
set_option maxRecDepth 100000 in
theorem c_Net_open (l : Launch) (D : va_G) (b : Nat) (ca : Nat → ClassId) {σ : rMem} {m : Int32} : rx_C l (rx_fin D b ca) y_Net_open b_Net_open 2 (some .int) (rx_rm 2) [.ref (rg_A (rx_fin D b ca) 0), .int m] σ (some (.int (rv_Net_open σ m))) σ := by
  refine rx_of (lo := [(0, .ref (rg_A (rx_fin D b ca) 0)), (1, .int m)]) (by decide) (rx_fin_D D b ca) rfl (Nat.le_of_ble_eq_true rfl) rfl ?_
  intro p e s mm below meth c C
  refine rx_iload_n C.1 (pc := 0) d_Net_open_0 rfl ?_
  refine q_Net_63 C.1 (pc := 1) d_Net_open_1 (c_Net_isMobile l ) ⟨Nat.le_of_ble_eq_true rfl, Nat.le_of_ble_eq_true rfl⟩ ⟨Nat.zero_le _, Nat.zero_le _⟩ (Nat.le_of_ble_eq_true rfl) ?_
  refine rx_if_eq C.1 (pc := 4) d_Net_open_4 (tgt := 19) rfl (fun h1 => ?_) (fun h1 => ?_)
  ·
    refine rx_iconst C.1 (v := 0) (pc := 19) d_Net_open_19 (by decide) ?_
    exact rx_iret C (pc := 20) d_Net_open_20 (by unfold rv_Net_open; first | (simp only [if_pos h1]; done) | (simp only [if_pos h1]; rfl)) rfl
  ·
    have g1 := rm_Net h1
    have j1 := rx_j2 g1
    have hj := rx_j2 g1
    refine rx_aload_n C.1 (pc := 7) d_Net_open_7 rfl ?_
    refine g_Net_31 D b ca C (pc := 8) d_Net_open_8 ?_
    refine rx_iload_n C.1 (pc := 11) d_Net_open_11 rfl ?_
    refine rx_ald_mobs D b ca C (pc := 12) d_Net_open_12 (by first | assumption | exact rx_in2 (by assumption) | exact rx_v02 | exact rx_v12) ?_
    refine g_Net_139 D b ca C (by first | assumption | (constructor <;> omega) | omega | decide) (pc := 13) d_Net_open_13 ?_
    refine rx_goto C.1 (pc := 16) d_Net_open_16 (tgt := 20) rfl ?_
    exact rx_iret C (pc := 20) d_Net_open_20 (by unfold rv_Net_open; first | (simp only [if_neg h1]; done) | (simp only [if_neg h1]; rfl)) rfl

def rv_Net_binding (σ : rMem) (m : Int32) : Int32 := if (rv_Net_isMobile m) = 0 then 0 else (if (rv_Home_isBound σ m) = 0 then 0 else (((100 * (σ 51 m.toNatClampNeg)) + (σ 52 m.toNatClampNeg)) - (σ 1 2)))
set_option maxHeartbeats 4000000 in
set_option maxRecDepth 100000 in
theorem c_Net_binding (l : Launch) (D : va_G) (b : Nat) (ca : Nat → ClassId) {σ : rMem} {m : Int32} : rx_C l (rx_fin D b ca) y_Net_binding b_Net_binding 2 (some .int) (rx_rm 2) [.ref (rg_A (rx_fin D b ca) 0), .int m] σ (some (.int (rv_Net_binding σ m))) σ := by
  refine rx_of (lo := [(0, .ref (rg_A (rx_fin D b ca) 0)), (1, .int m)]) (by decide) (rx_fin_D D b ca) rfl (Nat.le_of_ble_eq_true rfl) rfl ?_
  intro p e s mm below meth c C
  refine rx_iload_n C.1 (pc := 0) d_Net_binding_0 rfl ?_
  refine q_Net_63 C.1 (pc := 1) d_Net_binding_1 (c_Net_isMobile l ) ⟨Nat.le_of_ble_eq_true rfl, Nat.le_of_ble_eq_true rfl⟩ ⟨Nat.zero_le _, Nat.zero_le _⟩ (Nat.le_of_ble_eq_true rfl) ?_
  refine rx_if_eq C.1 (pc := 4) d_Net_binding_4 (tgt := 18) rfl (fun h1 => ?_) (fun h1 => ?_)
  ·
    refine rx_iconst C.1 (v := 0) (pc := 18) d_Net_binding_18 (by decide) ?_
    exact rx_iret C (pc := 19) d_Net_binding_19 (by unfold rv_Net_binding; first | (simp only [if_pos h1]; done) | (simp only [if_pos h1]; rfl)) rfl
  ·
    have g1 := rm_Net h1
    have j1 := rx_j2 g1
    refine rx_aload_n C.1 (pc := 7) d_Net_binding_7 rfl ?_
    refine g_Net_43 D b ca C (pc := 8) d_Net_binding_8 ?_
    refine rx_iload_n C.1 (pc := 11) d_Net_binding_11 rfl ?_
    refine q_Net_142 D b ca C (pc := 12) d_Net_binding_12 (c_Home_isBound l D b ca (by first | assumption | exact rx_iM0 | exact rx_iM1 | (constructor <;> omega))) ⟨Nat.le_of_ble_eq_true rfl, Nat.le_of_ble_eq_true rfl⟩ ⟨Nat.zero_le _, Nat.zero_le _⟩ (Nat.le_of_ble_eq_true rfl) ?_
    refine rx_if_ne C.1 (pc := 15) d_Net_binding_15 (tgt := 20) rfl (fun h2 => ?_) (fun h2 => ?_)
    ·
      refine rx_bipush C.1 (v := 100) (pc := 20) d_Net_binding_20 (by decide) ?_
      refine rx_aload_n C.1 (pc := 22) d_Net_binding_22 rfl ?_
      refine g_Net_43 D b ca C (pc := 23) d_Net_binding_23 ?_
      refine g_Net_145 D b ca C (pc := 26) d_Net_binding_26 ?_
      refine rx_iload_n C.1 (pc := 29) d_Net_binding_29 rfl ?_
      refine rx_iald C (i := 51) (n := 2) (pc := 30) d_Net_binding_30 (rx_lt (by decide)) rfl (by first | assumption | exact rx_in2 (by assumption) | exact rx_v02 | exact rx_v12) ?_
      refine rx_imul C.1 (pc := 31) d_Net_binding_31 ?_
      refine rx_aload_n C.1 (pc := 32) d_Net_binding_32 rfl ?_
      refine g_Net_43 D b ca C (pc := 33) d_Net_binding_33 ?_
      refine g_Net_147 D b ca C (pc := 36) d_Net_binding_36 ?_
      refine rx_iload_n C.1 (pc := 39) d_Net_binding_39 rfl ?_
      refine rx_iald C (i := 52) (n := 2) (pc := 40) d_Net_binding_40 (rx_lt (by decide)) rfl (by first | assumption | exact rx_in2 (by assumption) | exact rx_v02 | exact rx_v12) ?_
      refine rx_iadd C.1 (pc := 41) d_Net_binding_41 ?_
      refine rx_aload_n C.1 (pc := 42) d_Net_binding_42 rfl ?_
      refine g_Net_18 D b ca C (pc := 43) d_Net_binding_43 ?_
      refine g_Net_150 D b ca C (pc := 46) d_Net_binding_46 ?_
      refine rx_isub C.1 (pc := 49) d_Net_binding_49 ?_
      exact rx_iret C (pc := 50) d_Net_binding_50 (by unfold rv_Net_binding; first | (simp only [if_neg h1, if_neg h2]; done) | (simp only [if_neg h1, if_neg h2]; rfl)) rfl
    ·
      refine rx_iconst C.1 (v := 0) (pc := 18) d_Net_binding_18 (by decide) ?_
      exact rx_iret C (pc := 19) d_Net_binding_19 (by unfold rv_Net_binding; first | (simp only [if_neg h1, if_pos h2]; done) | (simp only [if_neg h1, if_pos h2]; rfl)) rfl

def rv_Net_visit (σ : rMem) (a : Int32) (m : Int32) : Int32 := if (rv_Net_isAgent a) = 0 then 0 else (if a = 0 then 0 else (if (rv_Net_isMobile m) = 0 then 0 else (if (rv_Fa_isVisited σ ((a - 1).toNatClampNeg) m) = 0 then 0 else ((σ ((54 + 4 * (a - 1).toNatClampNeg) + 1) m.toNatClampNeg) - (σ 1 2)))))
set_option maxHeartbeats 4000000 in
set_option maxRecDepth 100000 in
theorem c_Net_visit (l : Launch) (D : va_G) (b : Nat) (ca : Nat → ClassId) {σ : rMem} {a : Int32} {m : Int32} : rx_C l (rx_fin D b ca) y_Net_visit b_Net_visit 4 (some .int) (rx_rm 2) [.ref (rg_A (rx_fin D b ca) 0), .int a, .int m] σ (some (.int (rv_Net_visit σ a m))) σ := by
  refine rx_of (lo := [(0, .ref (rg_A (rx_fin D b ca) 0)), (1, .int a), (2, .int m)]) (by decide) (rx_fin_D D b ca) rfl (Nat.le_of_ble_eq_true rfl) rfl ?_
  intro p e s mm below meth c C
  refine rx_iload_n C.1 (pc := 0) d_Net_visit_0 rfl ?_
  refine q_Net_113 C.1 (pc := 1) d_Net_visit_1 (c_Net_isAgent l ) ⟨Nat.le_of_ble_eq_true rfl, Nat.le_of_ble_eq_true rfl⟩ ⟨Nat.zero_le _, Nat.zero_le _⟩ (Nat.le_of_ble_eq_true rfl) ?_
  refine rx_if_eq C.1 (pc := 4) d_Net_visit_4 (tgt := 18) rfl (fun h1 => ?_) (fun h1 => ?_)
  ·
    refine rx_iconst C.1 (v := 0) (pc := 18) d_Net_visit_18 (by decide) ?_
    exact rx_iret C (pc := 19) d_Net_visit_19 (by unfold rv_Net_visit; first | (simp only [if_pos h1]; done) | (simp only [if_pos h1]; rfl)) rfl
  ·
    refine rx_iload_n C.1 (pc := 7) d_Net_visit_7 rfl ?_
    refine rx_if_eq C.1 (pc := 8) d_Net_visit_8 (tgt := 18) rfl (fun h2 => ?_) (fun h2 => ?_)
    ·
      refine rx_iconst C.1 (v := 0) (pc := 18) d_Net_visit_18 (by decide) ?_
      exact rx_iret C (pc := 19) d_Net_visit_19 (by unfold rv_Net_visit; first | (simp only [if_neg h1, if_pos h2]; done) | (simp only [if_neg h1, if_pos h2]; rfl)) rfl
    ·
      refine rx_iload_n C.1 (pc := 11) d_Net_visit_11 rfl ?_
      refine q_Net_63 C.1 (pc := 12) d_Net_visit_12 (c_Net_isMobile l ) ⟨Nat.le_of_ble_eq_true rfl, Nat.le_of_ble_eq_true rfl⟩ ⟨Nat.zero_le _, Nat.zero_le _⟩ (Nat.le_of_ble_eq_true rfl) ?_
      refine rx_if_ne C.1 (pc := 15) d_Net_visit_15 (tgt := 20) rfl (fun h3 => ?_) (fun h3 => ?_)
      ·
        have g3 := rm_Net h3
        have j3 := rx_j2 g3
        refine rx_aload_n C.1 (pc := 20) d_Net_visit_20 rfl ?_
        refine g_Net_49 D b ca C (pc := 21) d_Net_visit_21 ?_
        refine rx_iload_n C.1 (pc := 24) d_Net_visit_24 rfl ?_
        refine rx_iconst C.1 (v := 1) (pc := 25) d_Net_visit_25 (by decide) ?_
        refine rx_isub C.1 (pc := 26) d_Net_visit_26 ?_
        have ha1 := ag_in h1 h2
        have ha := rx_vn ha1
        refine rx_ald_fas D b ca C (pc := 27) d_Net_visit_27 ha1 ?_
        refine rx_astore_n C.1 (pc := 28) d_Net_visit_28 (by decide) ?_
        refine rx_aload_n C.1 (pc := 29) d_Net_visit_29 rfl ?_
        refine rx_iload_n C.1 (pc := 30) d_Net_visit_30 rfl ?_
        refine q_Net_153 D b ca C (by first | assumption | (constructor <;> omega) | omega | decide) (pc := 31) d_Net_visit_31 (c_Fa_isVisited l D b ca (by first | assumption | (constructor <;> omega) | omega | decide) (by first | assumption | exact rx_iM0 | exact rx_iM1 | (constructor <;> omega))) ⟨Nat.le_of_ble_eq_true rfl, Nat.le_of_ble_eq_true rfl⟩ ⟨Nat.zero_le _, Nat.zero_le _⟩ (Nat.le_of_ble_eq_true rfl) ?_
        refine rx_if_eq C.1 (pc := 34) d_Net_visit_34 (tgt := 54) rfl (fun h4 => ?_) (fun h4 => ?_)
        ·
          refine rx_iconst C.1 (v := 0) (pc := 54) d_Net_visit_54 (by decide) ?_
          exact rx_iret C (pc := 55) d_Net_visit_55 (by unfold rv_Net_visit; first | (simp only [if_neg h1, if_neg h2, if_neg h3, if_pos h4]; done) | (simp only [if_neg h1, if_neg h2, if_neg h3, if_pos h4]; rfl)) rfl
        ·
          refine rx_aload_n C.1 (pc := 37) d_Net_visit_37 rfl ?_
          refine g_Net_156 D b ca C (by first | assumption | (constructor <;> omega) | omega | decide) (pc := 38) d_Net_visit_38 ?_
          refine rx_iload_n C.1 (pc := 41) d_Net_visit_41 rfl ?_
          refine rx_iald C (i := ((54 + 4 * (a - 1).toNatClampNeg) + 1)) (n := 2) (pc := 42) d_Net_visit_42 (rx_lt (by omega)) (rx_E_fr (a := (a - 1).toNatClampNeg) (t := 1) (by assumption) (by omega) _) (by first | assumption | exact rx_in2 (by assumption) | exact rx_v02 | exact rx_v12) ?_
          refine rx_aload_n C.1 (pc := 43) d_Net_visit_43 rfl ?_
          refine g_Net_18 D b ca C (pc := 44) d_Net_visit_44 ?_
          refine g_Net_150 D b ca C (pc := 47) d_Net_visit_47 ?_
          refine rx_isub C.1 (pc := 50) d_Net_visit_50 ?_
          refine rx_goto C.1 (pc := 51) d_Net_visit_51 (tgt := 55) rfl ?_
          exact rx_iret C (pc := 55) d_Net_visit_55 (by unfold rv_Net_visit; first | (simp only [if_neg h1, if_neg h2, if_neg h3, if_neg h4]; done) | (simp only [if_neg h1, if_neg h2, if_neg h3, if_neg h4]; rfl)) rfl
      ·
        refine rx_iconst C.1 (v := 0) (pc := 18) d_Net_visit_18 (by decide) ?_
        exact rx_iret C (pc := 19) d_Net_visit_19 (by unfold rv_Net_visit; first | (simp only [if_neg h1, if_neg h2, if_pos h3]; done) | (simp only [if_neg h1, if_neg h2, if_pos h3]; rfl)) rfl

def rv_Net_count (σ : rMem) (w : Int32) (m : Int32) : Int32 := if (rv_Net_isMobile m) = 0 then (-1) else (if w = 0 then (σ (46 + m.toNatClampNeg) 13) else (if w = 1 then (σ 68 m.toNatClampNeg) else (if w = 2 then (σ 69 m.toNatClampNeg) else (if w = 3 then (σ 67 m.toNatClampNeg) else (-1)))))
set_option maxHeartbeats 4000000 in
set_option maxRecDepth 100000 in
theorem c_Net_count (l : Launch) (D : va_G) (b : Nat) (ca : Nat → ClassId) {σ : rMem} {w : Int32} {m : Int32} : rx_C l (rx_fin D b ca) y_Net_count b_Net_count 3 (some .int) (rx_rm 2) [.ref (rg_A (rx_fin D b ca) 0), .int w, .int m] σ (some (.int (rv_Net_count σ w m))) σ := by
  refine rx_of (lo := [(0, .ref (rg_A (rx_fin D b ca) 0)), (1, .int w), (2, .int m)]) (by decide) (rx_fin_D D b ca) rfl (Nat.le_of_ble_eq_true rfl) rfl ?_
  intro p e s mm below meth c C
  refine rx_iload_n C.1 (pc := 0) d_Net_count_0 rfl ?_
  refine q_Net_63 C.1 (pc := 1) d_Net_count_1 (c_Net_isMobile l ) ⟨Nat.le_of_ble_eq_true rfl, Nat.le_of_ble_eq_true rfl⟩ ⟨Nat.zero_le _, Nat.zero_le _⟩ (Nat.le_of_ble_eq_true rfl) ?_
  refine rx_if_ne C.1 (pc := 4) d_Net_count_4 (tgt := 9) rfl (fun h1 => ?_) (fun h1 => ?_)
  ·
    have g1 := rm_Net h1
    have j1 := rx_j2 g1
    refine rx_iload_n C.1 (pc := 9) d_Net_count_9 rfl ?_
    by_cases h2 : w = 0
    ·
      refine rx_tin C.1 h2 (pc := 10) (tgt := 40) d_Net_count_10 (by decide) (by decide) rfl rfl ?_
      have hj := rx_j2 g1
      refine rx_aload_n C.1 (pc := 40) d_Net_count_40 rfl ?_
      refine g_Net_31 D b ca C (pc := 41) d_Net_count_41 ?_
      refine rx_iload_n C.1 (pc := 44) d_Net_count_44 rfl ?_
      refine rx_ald_mobs D b ca C (pc := 45) d_Net_count_45 (by first | assumption | exact rx_in2 (by assumption) | exact rx_v02 | exact rx_v12) ?_
      refine g_Net_159 D b ca C (by first | assumption | (constructor <;> omega) | omega | decide) (pc := 46) d_Net_count_46 ?_
      exact rx_iret C (pc := 49) d_Net_count_49 (by unfold rv_Net_count; first | (simp only [if_neg h1, if_pos h2]; done) | (simp only [if_neg h1, if_pos h2]; rfl)) rfl
    ·
      by_cases h3 : w = 1
      ·
        refine rx_tin C.1 h3 (pc := 10) (tgt := 50) d_Net_count_10 (by decide) (by decide) rfl rfl ?_
        refine rx_aload_n C.1 (pc := 50) d_Net_count_50 rfl ?_
        refine g_Net_59 D b ca C (pc := 51) d_Net_count_51 ?_
        refine g_Net_162 D b ca C (pc := 54) d_Net_count_54 ?_
        refine rx_iload_n C.1 (pc := 57) d_Net_count_57 rfl ?_
        refine rx_iald C (i := 68) (n := 2) (pc := 58) d_Net_count_58 (rx_lt (by decide)) rfl (by first | assumption | exact rx_in2 (by assumption) | exact rx_v02 | exact rx_v12) ?_
        exact rx_iret C (pc := 59) d_Net_count_59 (by unfold rv_Net_count; first | (simp only [if_neg h1, if_neg h2, if_pos h3]; done) | (simp only [if_neg h1, if_neg h2, if_pos h3]; rfl)) rfl
      ·
        by_cases h4 : w = 2
        ·
          refine rx_tin C.1 h4 (pc := 10) (tgt := 60) d_Net_count_10 (by decide) (by decide) rfl rfl ?_
          refine rx_aload_n C.1 (pc := 60) d_Net_count_60 rfl ?_
          refine g_Net_59 D b ca C (pc := 61) d_Net_count_61 ?_
          refine g_Net_165 D b ca C (pc := 64) d_Net_count_64 ?_
          refine rx_iload_n C.1 (pc := 67) d_Net_count_67 rfl ?_
          refine rx_iald C (i := 69) (n := 2) (pc := 68) d_Net_count_68 (rx_lt (by decide)) rfl (by first | assumption | exact rx_in2 (by assumption) | exact rx_v02 | exact rx_v12) ?_
          exact rx_iret C (pc := 69) d_Net_count_69 (by unfold rv_Net_count; first | (simp only [if_neg h1, if_neg h2, if_neg h3, if_pos h4]; done) | (simp only [if_neg h1, if_neg h2, if_neg h3, if_pos h4]; rfl)) rfl
        ·
          by_cases h5 : w = 3
          ·
            refine rx_tin C.1 h5 (pc := 10) (tgt := 70) d_Net_count_10 (by decide) (by decide) rfl rfl ?_
            refine rx_aload_n C.1 (pc := 70) d_Net_count_70 rfl ?_
            refine g_Net_59 D b ca C (pc := 71) d_Net_count_71 ?_
            refine g_Net_81 D b ca C (pc := 74) d_Net_count_74 ?_
            refine rx_iload_n C.1 (pc := 77) d_Net_count_77 rfl ?_
            refine rx_iald C (i := 67) (n := 2) (pc := 78) d_Net_count_78 (rx_lt (by decide)) rfl (by first | assumption | exact rx_in2 (by assumption) | exact rx_v02 | exact rx_v12) ?_
            exact rx_iret C (pc := 79) d_Net_count_79 (by unfold rv_Net_count; first | (simp only [if_neg h1, if_neg h2, if_neg h3, if_neg h4, if_pos h5]; done) | (simp only [if_neg h1, if_neg h2, if_neg h3, if_neg h4, if_pos h5]; rfl)) rfl
          ·
            refine rx_tout4 C.1 h2 h3 h4 h5 (pc := 10) (tgt := 80) d_Net_count_10 rfl ?_
            refine rx_iconst C.1 (v := (-1)) (pc := 80) d_Net_count_80 (by decide) ?_
            exact rx_iret C (pc := 81) d_Net_count_81 (by unfold rv_Net_count; first | (simp only [if_neg h1, if_neg h2, if_neg h3, if_neg h4, if_neg h5]; done) | (simp only [if_neg h1, if_neg h2, if_neg h3, if_neg h4, if_neg h5]; rfl)) rfl
  ·
    refine rx_iconst C.1 (v := (-1)) (pc := 7) d_Net_count_7 (by decide) ?_
    exact rx_iret C (pc := 8) d_Net_count_8 (by unfold rv_Net_count; first | (simp only [if_pos h1]; done) | (simp only [if_pos h1]; rfl)) rfl

def sp_Net_advertise (σ : rMem) (a : Int32) : rMem := if (σ (46 + (Int32.toNatClampNeg 0)) 4) = a then (let m2 := (sp_Wire_sendInNetwork σ a 1 0 a).1; if (m2 (46 + (Int32.toNatClampNeg 1)) 4) = a then (let m3 := (sp_Wire_sendInNetwork m2 a 1 1 a).1; m3) else m2) else (if (σ (46 + (Int32.toNatClampNeg 1)) 4) = a then (let m1 := (sp_Wire_sendInNetwork σ a 1 1 a).1; m1) else σ)
set_option maxHeartbeats 4000000 in
set_option maxRecDepth 100000 in
theorem c_Net_advertise (l : Launch) (D : va_G) (b : Nat) (ca : Nat → ClassId) {σ : rMem} {a : Int32} : rx_C l (rx_fin D b ca) y_Net_advertise b_Net_advertise 3 none (rx_rm 4) [.ref (rg_A (rx_fin D b ca) 0), .int a] σ none (sp_Net_advertise σ a) := by
  refine rx_of (lo := [(0, .ref (rg_A (rx_fin D b ca) 0)), (1, .int a)]) (by decide) (rx_fin_D D b ca) rfl (Nat.le_of_ble_eq_true rfl) rfl ?_
  intro p e s mm below meth c C
  refine rx_iconst C.1 (v := 0) (pc := 0) d_Net_advertise_0 (by decide) ?_
  refine rx_istore_n C.1 (pc := 1) d_Net_advertise_1 (by decide) ?_
  refine rx_iload_n C.1 (pc := 2) d_Net_advertise_2 rfl ?_
  refine rx_iconst C.1 (v := 2) (pc := 3) d_Net_advertise_3 (by decide) ?_
  refine rx_icmp_ge C.1 (pc := 4) d_Net_advertise_4 (tgt := 38) rfl (fun h9 => absurd h9 (by decide)) (fun _ => ?_)
  refine rx_aload_n C.1 (pc := 7) d_Net_advertise_7 rfl ?_
  refine g_Net_31 D b ca C (pc := 8) d_Net_advertise_8 ?_
  refine rx_iload_n C.1 (pc := 11) d_Net_advertise_11 rfl ?_
  refine rx_ald_mobs D b ca C (pc := 12) d_Net_advertise_12 (by first | assumption | exact rx_in2 (by assumption) | exact rx_v02 | exact rx_v12) ?_
  refine g_Net_75 D b ca C (by first | assumption | (constructor <;> omega) | omega | decide) (pc := 13) d_Net_advertise_13 ?_
  refine rx_iload_n C.1 (pc := 16) d_Net_advertise_16 rfl ?_
  refine rx_icmp_ne C.1 (pc := 17) d_Net_advertise_17 (tgt := 32) rfl (fun h1 => ?_) (fun h1 => ?_)
  ·
    refine rx_iinc C.1 (v := 1) (pc := 32) d_Net_advertise_32 rfl (by decide) (by decide) ?_
    refine rx_goto C.1 (pc := 35) d_Net_advertise_35 (tgt := 2) rfl ?_
    refine rx_iload_n C.1 (pc := 2) d_Net_advertise_2 rfl ?_
    refine rx_iconst C.1 (v := 2) (pc := 3) d_Net_advertise_3 (by decide) ?_
    refine rx_icmp_ge C.1 (pc := 4) d_Net_advertise_4 (tgt := 38) rfl (fun h9 => absurd h9 (by decide)) (fun _ => ?_)
    refine rx_aload_n C.1 (pc := 7) d_Net_advertise_7 rfl ?_
    refine g_Net_31 D b ca C (pc := 8) d_Net_advertise_8 ?_
    refine rx_iload_n C.1 (pc := 11) d_Net_advertise_11 rfl ?_
    refine rx_ald_mobs D b ca C (pc := 12) d_Net_advertise_12 (by first | assumption | exact rx_in2 (by assumption) | exact rx_v02 | exact rx_v12) ?_
    refine g_Net_75 D b ca C (by first | assumption | (constructor <;> omega) | omega | decide) (pc := 13) d_Net_advertise_13 ?_
    refine rx_iload_n C.1 (pc := 16) d_Net_advertise_16 rfl ?_
    refine rx_icmp_ne C.1 (pc := 17) d_Net_advertise_17 (tgt := 32) rfl (fun h2 => ?_) (fun h2 => ?_)
    ·
      refine rx_iinc C.1 (v := 2) (pc := 32) d_Net_advertise_32 rfl (by decide) (by decide) ?_
      refine rx_goto C.1 (pc := 35) d_Net_advertise_35 (tgt := 2) rfl ?_
      refine rx_iload_n C.1 (pc := 2) d_Net_advertise_2 rfl ?_
      refine rx_iconst C.1 (v := 2) (pc := 3) d_Net_advertise_3 (by decide) ?_
      refine rx_icmp_ge C.1 (pc := 4) d_Net_advertise_4 (tgt := 38) rfl (fun _ => ?_) (fun h9 => absurd (by decide) h9) 
      exact rx_vret C (pc := 38) d_Net_advertise_38 (by unfold sp_Net_advertise; first | (simp only [if_neg h1, if_neg h2]; done) | (simp only [if_neg h1, if_neg h2]; rfl))
    ·
      refine rx_aload_n C.1 (pc := 20) d_Net_advertise_20 rfl ?_
      refine g_Net_18 D b ca C (pc := 21) d_Net_advertise_21 ?_
      refine rx_iload_n C.1 (pc := 24) d_Net_advertise_24 rfl ?_
      refine rx_iconst C.1 (v := 1) (pc := 25) d_Net_advertise_25 (by decide) ?_
      refine rx_iload_n C.1 (pc := 26) d_Net_advertise_26 rfl ?_
      refine rx_iload_n C.1 (pc := 27) d_Net_advertise_27 rfl ?_
      refine q_Net_177 D b ca C (pc := 28) d_Net_advertise_28 (c_Wire_sendInNetwork l D b ca ) (fun hI => rq_Wire_sendInNetwork hI) ⟨Nat.le_of_ble_eq_true rfl, Nat.le_of_ble_eq_true rfl⟩ ⟨Nat.zero_le _, Nat.zero_le _⟩ (Nat.le_of_ble_eq_true rfl) (fun hq1 => ?_)
      refine rx_pop C.1 (pc := 31) d_Net_advertise_31 rfl ?_
      refine rx_iinc C.1 (v := 2) (pc := 32) d_Net_advertise_32 rfl (by decide) (by decide) ?_
      refine rx_goto C.1 (pc := 35) d_Net_advertise_35 (tgt := 2) rfl ?_
      refine rx_iload_n C.1 (pc := 2) d_Net_advertise_2 rfl ?_
      refine rx_iconst C.1 (v := 2) (pc := 3) d_Net_advertise_3 (by decide) ?_
      refine rx_icmp_ge C.1 (pc := 4) d_Net_advertise_4 (tgt := 38) rfl (fun _ => ?_) (fun h9 => absurd (by decide) h9) 
      exact rx_vret C (pc := 38) d_Net_advertise_38 (by unfold sp_Net_advertise; first | (simp only [if_neg h1, if_pos h2]; done) | (simp only [if_neg h1, if_pos h2]; rfl))
  ·
    refine rx_aload_n C.1 (pc := 20) d_Net_advertise_20 rfl ?_
    refine g_Net_18 D b ca C (pc := 21) d_Net_advertise_21 ?_
    refine rx_iload_n C.1 (pc := 24) d_Net_advertise_24 rfl ?_
    refine rx_iconst C.1 (v := 1) (pc := 25) d_Net_advertise_25 (by decide) ?_
    refine rx_iload_n C.1 (pc := 26) d_Net_advertise_26 rfl ?_
    refine rx_iload_n C.1 (pc := 27) d_Net_advertise_27 rfl ?_
    refine q_Net_177 D b ca C (pc := 28) d_Net_advertise_28 (c_Wire_sendInNetwork l D b ca ) (fun hI => rq_Wire_sendInNetwork hI) ⟨Nat.le_of_ble_eq_true rfl, Nat.le_of_ble_eq_true rfl⟩ ⟨Nat.zero_le _, Nat.zero_le _⟩ (Nat.le_of_ble_eq_true rfl) (fun hq2 => ?_)
    refine rx_pop C.1 (pc := 31) d_Net_advertise_31 rfl ?_
    refine rx_iinc C.1 (v := 1) (pc := 32) d_Net_advertise_32 rfl (by decide) (by decide) ?_
    refine rx_goto C.1 (pc := 35) d_Net_advertise_35 (tgt := 2) rfl ?_
    refine rx_iload_n C.1 (pc := 2) d_Net_advertise_2 rfl ?_
    refine rx_iconst C.1 (v := 2) (pc := 3) d_Net_advertise_3 (by decide) ?_
    refine rx_icmp_ge C.1 (pc := 4) d_Net_advertise_4 (tgt := 38) rfl (fun h9 => absurd h9 (by decide)) (fun _ => ?_)
    refine rx_aload_n C.1 (pc := 7) d_Net_advertise_7 rfl ?_
    refine g_Net_31 D b ca C (pc := 8) d_Net_advertise_8 ?_
    refine rx_iload_n C.1 (pc := 11) d_Net_advertise_11 rfl ?_
    refine rx_ald_mobs D b ca C (pc := 12) d_Net_advertise_12 (by first | assumption | exact rx_in2 (by assumption) | exact rx_v02 | exact rx_v12) ?_
    refine g_Net_75 D b ca C (by first | assumption | (constructor <;> omega) | omega | decide) (pc := 13) d_Net_advertise_13 ?_
    refine rx_iload_n C.1 (pc := 16) d_Net_advertise_16 rfl ?_
    refine rx_icmp_ne C.1 (pc := 17) d_Net_advertise_17 (tgt := 32) rfl (fun h3 => ?_) (fun h3 => ?_)
    ·
      refine rx_iinc C.1 (v := 2) (pc := 32) d_Net_advertise_32 rfl (by decide) (by decide) ?_
      refine rx_goto C.1 (pc := 35) d_Net_advertise_35 (tgt := 2) rfl ?_
      refine rx_iload_n C.1 (pc := 2) d_Net_advertise_2 rfl ?_
      refine rx_iconst C.1 (v := 2) (pc := 3) d_Net_advertise_3 (by decide) ?_
      refine rx_icmp_ge C.1 (pc := 4) d_Net_advertise_4 (tgt := 38) rfl (fun _ => ?_) (fun h9 => absurd (by decide) h9) 
      exact rx_vret C (pc := 38) d_Net_advertise_38 (by unfold sp_Net_advertise; first | (simp only [if_pos h1, if_neg h3]; done) | (simp only [if_pos h1, if_neg h3]; rfl))
    ·
      refine rx_aload_n C.1 (pc := 20) d_Net_advertise_20 rfl ?_
      refine g_Net_18 D b ca C (pc := 21) d_Net_advertise_21 ?_
      refine rx_iload_n C.1 (pc := 24) d_Net_advertise_24 rfl ?_
      refine rx_iconst C.1 (v := 1) (pc := 25) d_Net_advertise_25 (by decide) ?_
      refine rx_iload_n C.1 (pc := 26) d_Net_advertise_26 rfl ?_
      refine rx_iload_n C.1 (pc := 27) d_Net_advertise_27 rfl ?_
      refine q_Net_177 D b ca C (pc := 28) d_Net_advertise_28 (c_Wire_sendInNetwork l D b ca ) (fun hI => rq_Wire_sendInNetwork hI) ⟨Nat.le_of_ble_eq_true rfl, Nat.le_of_ble_eq_true rfl⟩ ⟨Nat.zero_le _, Nat.zero_le _⟩ (Nat.le_of_ble_eq_true rfl) (fun hq3 => ?_)
      refine rx_pop C.1 (pc := 31) d_Net_advertise_31 rfl ?_
      refine rx_iinc C.1 (v := 2) (pc := 32) d_Net_advertise_32 rfl (by decide) (by decide) ?_
      refine rx_goto C.1 (pc := 35) d_Net_advertise_35 (tgt := 2) rfl ?_
      refine rx_iload_n C.1 (pc := 2) d_Net_advertise_2 rfl ?_
      refine rx_iconst C.1 (v := 2) (pc := 3) d_Net_advertise_3 (by decide) ?_
      refine rx_icmp_ge C.1 (pc := 4) d_Net_advertise_4 (tgt := 38) rfl (fun _ => ?_) (fun h9 => absurd (by decide) h9) 
      exact rx_vret C (pc := 38) d_Net_advertise_38 (by unfold sp_Net_advertise; first | (simp only [if_pos h1, if_pos h3]; done) | (simp only [if_pos h1, if_pos h3]; rfl))

def sp_Net_passOneTick (σ : rMem)  : rMem := let m1 := rx_wr σ 1 2 ((σ 1 2) + 1); if ((m1 1 2) - (m1 1 2) / 4 * 4) = 0 then (let m6 := sp_Net_advertise m1 0; let m7 := sp_Net_advertise m6 1; let m8 := sp_Net_advertise m7 2; let m9 := sp_Net_advertise m8 3; let m10 := sp_Mob_notice m9 (Int32.toNatClampNeg 0); let m11 := sp_Mob_notice m10 (Int32.toNatClampNeg 1); let m12 := sp_Corr_resendIfDue m11 0; let m13 := sp_Corr_resendIfDue m12 1; m13) else (let m2 := sp_Mob_notice m1 (Int32.toNatClampNeg 0); let m3 := sp_Mob_notice m2 (Int32.toNatClampNeg 1); let m4 := sp_Corr_resendIfDue m3 0; let m5 := sp_Corr_resendIfDue m4 1; m5)
set_option maxHeartbeats 4000000 in
set_option maxRecDepth 100000 in
theorem c_Net_passOneTick (l : Launch) (D : va_G) (b : Nat) (ca : Nat → ClassId) {σ : rMem}  : rx_C l (rx_fin D b ca) y_Net_passOneTick b_Net_passOneTick 2 none (rx_rm 5) [.ref (rg_A (rx_fin D b ca) 0)] σ none (sp_Net_passOneTick σ) := by
  refine rx_of (lo := [(0, .ref (rg_A (rx_fin D b ca) 0))]) (by decide) (rx_fin_D D b ca) rfl (Nat.le_of_ble_eq_true rfl) rfl ?_
  intro p e s mm below meth c C
  refine rx_aload_n C.1 (pc := 0) d_Net_passOneTick_0 rfl ?_
  refine g_Net_18 D b ca C (pc := 1) d_Net_passOneTick_1 ?_
  refine rx_dup C.1 (pc := 4) d_Net_passOneTick_4 rfl ?_
  refine g_Net_150 D b ca C (pc := 5) d_Net_passOneTick_5 ?_
  refine rx_iconst C.1 (v := 1) (pc := 8) d_Net_passOneTick_8 (by decide) ?_
  refine rx_iadd C.1 (pc := 9) d_Net_passOneTick_9 ?_
  refine p_Net_150 D b ca C (pc := 10) d_Net_passOneTick_10 ?_
  refine rx_aload_n C.1 (pc := 13) d_Net_passOneTick_13 rfl ?_
  refine g_Net_18 D b ca C (pc := 14) d_Net_passOneTick_14 ?_
  refine g_Net_150 D b ca C (pc := 17) d_Net_passOneTick_17 ?_
  refine rx_iconst C.1 (v := 4) (pc := 20) d_Net_passOneTick_20 (by decide) ?_
  refine rx_irem C.1 (pc := 21) d_Net_passOneTick_21 (by decide) ?_
  refine rx_if_ne C.1 (pc := 22) d_Net_passOneTick_22 (tgt := 43) rfl (fun h1 => ?_) (fun h1 => ?_)
  ·
    refine rx_iconst C.1 (v := 0) (pc := 43) d_Net_passOneTick_43 (by decide) ?_
    refine rx_istore_n C.1 (pc := 44) d_Net_passOneTick_44 (by decide) ?_
    refine rx_iload_n C.1 (pc := 45) d_Net_passOneTick_45 rfl ?_
    refine rx_iconst C.1 (v := 2) (pc := 46) d_Net_passOneTick_46 (by decide) ?_
    refine rx_icmp_ge C.1 (pc := 47) d_Net_passOneTick_47 (tgt := 65) rfl (fun h9 => absurd h9 (by decide)) (fun _ => ?_)
    refine rx_aload_n C.1 (pc := 50) d_Net_passOneTick_50 rfl ?_
    refine g_Net_31 D b ca C (pc := 51) d_Net_passOneTick_51 ?_
    refine rx_iload_n C.1 (pc := 54) d_Net_passOneTick_54 rfl ?_
    refine rx_ald_mobs D b ca C (pc := 55) d_Net_passOneTick_55 (by first | assumption | exact rx_in2 (by assumption) | exact rx_v02 | exact rx_v12) ?_
    refine q_Net_171 D b ca C (by first | assumption | (constructor <;> omega) | omega | decide) (pc := 56) d_Net_passOneTick_56 (c_Mob_notice l D b ca (by first | assumption | (constructor <;> omega) | omega | decide) ) ⟨Nat.le_of_ble_eq_true rfl, Nat.le_of_ble_eq_true rfl⟩ ⟨Nat.zero_le _, Nat.zero_le _⟩ (Nat.le_of_ble_eq_true rfl) ?_
    refine rx_iinc C.1 (v := 1) (pc := 59) d_Net_passOneTick_59 rfl (by decide) (by decide) ?_
    refine rx_goto C.1 (pc := 62) d_Net_passOneTick_62 (tgt := 45) rfl ?_
    refine rx_iload_n C.1 (pc := 45) d_Net_passOneTick_45 rfl ?_
    refine rx_iconst C.1 (v := 2) (pc := 46) d_Net_passOneTick_46 (by decide) ?_
    refine rx_icmp_ge C.1 (pc := 47) d_Net_passOneTick_47 (tgt := 65) rfl (fun h9 => absurd h9 (by decide)) (fun _ => ?_)
    refine rx_aload_n C.1 (pc := 50) d_Net_passOneTick_50 rfl ?_
    refine g_Net_31 D b ca C (pc := 51) d_Net_passOneTick_51 ?_
    refine rx_iload_n C.1 (pc := 54) d_Net_passOneTick_54 rfl ?_
    refine rx_ald_mobs D b ca C (pc := 55) d_Net_passOneTick_55 (by first | assumption | exact rx_in2 (by assumption) | exact rx_v02 | exact rx_v12) ?_
    refine q_Net_171 D b ca C (by first | assumption | (constructor <;> omega) | omega | decide) (pc := 56) d_Net_passOneTick_56 (c_Mob_notice l D b ca (by first | assumption | (constructor <;> omega) | omega | decide) ) ⟨Nat.le_of_ble_eq_true rfl, Nat.le_of_ble_eq_true rfl⟩ ⟨Nat.zero_le _, Nat.zero_le _⟩ (Nat.le_of_ble_eq_true rfl) ?_
    refine rx_iinc C.1 (v := 2) (pc := 59) d_Net_passOneTick_59 rfl (by decide) (by decide) ?_
    refine rx_goto C.1 (pc := 62) d_Net_passOneTick_62 (tgt := 45) rfl ?_
    refine rx_iload_n C.1 (pc := 45) d_Net_passOneTick_45 rfl ?_
    refine rx_iconst C.1 (v := 2) (pc := 46) d_Net_passOneTick_46 (by decide) ?_
    refine rx_icmp_ge C.1 (pc := 47) d_Net_passOneTick_47 (tgt := 65) rfl (fun _ => ?_) (fun h9 => absurd (by decide) h9) 
    refine rx_iconst C.1 (v := 0) (pc := 65) d_Net_passOneTick_65 (by decide) ?_
    refine rx_istore_n C.1 (pc := 66) d_Net_passOneTick_66 (by decide) ?_
    refine rx_iload_n C.1 (pc := 67) d_Net_passOneTick_67 rfl ?_
    refine rx_iconst C.1 (v := 2) (pc := 68) d_Net_passOneTick_68 (by decide) ?_
    refine rx_icmp_ge C.1 (pc := 69) d_Net_passOneTick_69 (tgt := 86) rfl (fun h9 => absurd h9 (by decide)) (fun _ => ?_)
    refine rx_aload_n C.1 (pc := 72) d_Net_passOneTick_72 rfl ?_
    refine g_Net_59 D b ca C (pc := 73) d_Net_passOneTick_73 ?_
    refine rx_iload_n C.1 (pc := 76) d_Net_passOneTick_76 rfl ?_
    refine q_Net_174 D b ca C (pc := 77) d_Net_passOneTick_77 (c_Corr_resendIfDue l D b ca (by first | assumption | exact rx_iM0 | exact rx_iM1 | (constructor <;> omega))) ⟨Nat.le_of_ble_eq_true rfl, Nat.le_of_ble_eq_true rfl⟩ ⟨Nat.zero_le _, Nat.zero_le _⟩ (Nat.le_of_ble_eq_true rfl) ?_
    refine rx_iinc C.1 (v := 1) (pc := 80) d_Net_passOneTick_80 rfl (by decide) (by decide) ?_
    refine rx_goto C.1 (pc := 83) d_Net_passOneTick_83 (tgt := 67) rfl ?_
    refine rx_iload_n C.1 (pc := 67) d_Net_passOneTick_67 rfl ?_
    refine rx_iconst C.1 (v := 2) (pc := 68) d_Net_passOneTick_68 (by decide) ?_
    refine rx_icmp_ge C.1 (pc := 69) d_Net_passOneTick_69 (tgt := 86) rfl (fun h9 => absurd h9 (by decide)) (fun _ => ?_)
    refine rx_aload_n C.1 (pc := 72) d_Net_passOneTick_72 rfl ?_
    refine g_Net_59 D b ca C (pc := 73) d_Net_passOneTick_73 ?_
    refine rx_iload_n C.1 (pc := 76) d_Net_passOneTick_76 rfl ?_
    refine q_Net_174 D b ca C (pc := 77) d_Net_passOneTick_77 (c_Corr_resendIfDue l D b ca (by first | assumption | exact rx_iM0 | exact rx_iM1 | (constructor <;> omega))) ⟨Nat.le_of_ble_eq_true rfl, Nat.le_of_ble_eq_true rfl⟩ ⟨Nat.zero_le _, Nat.zero_le _⟩ (Nat.le_of_ble_eq_true rfl) ?_
    refine rx_iinc C.1 (v := 2) (pc := 80) d_Net_passOneTick_80 rfl (by decide) (by decide) ?_
    refine rx_goto C.1 (pc := 83) d_Net_passOneTick_83 (tgt := 67) rfl ?_
    refine rx_iload_n C.1 (pc := 67) d_Net_passOneTick_67 rfl ?_
    refine rx_iconst C.1 (v := 2) (pc := 68) d_Net_passOneTick_68 (by decide) ?_
    refine rx_icmp_ge C.1 (pc := 69) d_Net_passOneTick_69 (tgt := 86) rfl (fun _ => ?_) (fun h9 => absurd (by decide) h9) 
    exact rx_vret C (pc := 86) d_Net_passOneTick_86 (by unfold sp_Net_passOneTick; first | (simp only [if_neg h1]; done) | (simp only [if_neg h1]; rfl))
  ·
    refine rx_iconst C.1 (v := 0) (pc := 25) d_Net_passOneTick_25 (by decide) ?_
    refine rx_istore_n C.1 (pc := 26) d_Net_passOneTick_26 (by decide) ?_
    refine rx_iload_n C.1 (pc := 27) d_Net_passOneTick_27 rfl ?_
    refine rx_iconst C.1 (v := 4) (pc := 28) d_Net_passOneTick_28 (by decide) ?_
    refine rx_icmp_ge C.1 (pc := 29) d_Net_passOneTick_29 (tgt := 43) rfl (fun h9 => absurd h9 (by decide)) (fun _ => ?_)
    refine rx_aload_n C.1 (pc := 32) d_Net_passOneTick_32 rfl ?_
    refine rx_iload_n C.1 (pc := 33) d_Net_passOneTick_33 rfl ?_
    refine q_Net_168 D b ca C (pc := 34) d_Net_passOneTick_34 (c_Net_advertise l D b ca ) ⟨Nat.le_of_ble_eq_true rfl, Nat.le_of_ble_eq_true rfl⟩ ⟨Nat.zero_le _, Nat.zero_le _⟩ (Nat.le_of_ble_eq_true rfl) ?_
    refine rx_iinc C.1 (v := 1) (pc := 37) d_Net_passOneTick_37 rfl (by decide) (by decide) ?_
    refine rx_goto C.1 (pc := 40) d_Net_passOneTick_40 (tgt := 27) rfl ?_
    refine rx_iload_n C.1 (pc := 27) d_Net_passOneTick_27 rfl ?_
    refine rx_iconst C.1 (v := 4) (pc := 28) d_Net_passOneTick_28 (by decide) ?_
    refine rx_icmp_ge C.1 (pc := 29) d_Net_passOneTick_29 (tgt := 43) rfl (fun h9 => absurd h9 (by decide)) (fun _ => ?_)
    refine rx_aload_n C.1 (pc := 32) d_Net_passOneTick_32 rfl ?_
    refine rx_iload_n C.1 (pc := 33) d_Net_passOneTick_33 rfl ?_
    refine q_Net_168 D b ca C (pc := 34) d_Net_passOneTick_34 (c_Net_advertise l D b ca ) ⟨Nat.le_of_ble_eq_true rfl, Nat.le_of_ble_eq_true rfl⟩ ⟨Nat.zero_le _, Nat.zero_le _⟩ (Nat.le_of_ble_eq_true rfl) ?_
    refine rx_iinc C.1 (v := 2) (pc := 37) d_Net_passOneTick_37 rfl (by decide) (by decide) ?_
    refine rx_goto C.1 (pc := 40) d_Net_passOneTick_40 (tgt := 27) rfl ?_
    refine rx_iload_n C.1 (pc := 27) d_Net_passOneTick_27 rfl ?_
    refine rx_iconst C.1 (v := 4) (pc := 28) d_Net_passOneTick_28 (by decide) ?_
    refine rx_icmp_ge C.1 (pc := 29) d_Net_passOneTick_29 (tgt := 43) rfl (fun h9 => absurd h9 (by decide)) (fun _ => ?_)
    refine rx_aload_n C.1 (pc := 32) d_Net_passOneTick_32 rfl ?_
    refine rx_iload_n C.1 (pc := 33) d_Net_passOneTick_33 rfl ?_
    refine q_Net_168 D b ca C (pc := 34) d_Net_passOneTick_34 (c_Net_advertise l D b ca ) ⟨Nat.le_of_ble_eq_true rfl, Nat.le_of_ble_eq_true rfl⟩ ⟨Nat.zero_le _, Nat.zero_le _⟩ (Nat.le_of_ble_eq_true rfl) ?_
    refine rx_iinc C.1 (v := 3) (pc := 37) d_Net_passOneTick_37 rfl (by decide) (by decide) ?_
    refine rx_goto C.1 (pc := 40) d_Net_passOneTick_40 (tgt := 27) rfl ?_
    refine rx_iload_n C.1 (pc := 27) d_Net_passOneTick_27 rfl ?_
    refine rx_iconst C.1 (v := 4) (pc := 28) d_Net_passOneTick_28 (by decide) ?_
    refine rx_icmp_ge C.1 (pc := 29) d_Net_passOneTick_29 (tgt := 43) rfl (fun h9 => absurd h9 (by decide)) (fun _ => ?_)
    refine rx_aload_n C.1 (pc := 32) d_Net_passOneTick_32 rfl ?_
    refine rx_iload_n C.1 (pc := 33) d_Net_passOneTick_33 rfl ?_
    refine q_Net_168 D b ca C (pc := 34) d_Net_passOneTick_34 (c_Net_advertise l D b ca ) ⟨Nat.le_of_ble_eq_true rfl, Nat.le_of_ble_eq_true rfl⟩ ⟨Nat.zero_le _, Nat.zero_le _⟩ (Nat.le_of_ble_eq_true rfl) ?_
    refine rx_iinc C.1 (v := 4) (pc := 37) d_Net_passOneTick_37 rfl (by decide) (by decide) ?_
    refine rx_goto C.1 (pc := 40) d_Net_passOneTick_40 (tgt := 27) rfl ?_
    refine rx_iload_n C.1 (pc := 27) d_Net_passOneTick_27 rfl ?_
    refine rx_iconst C.1 (v := 4) (pc := 28) d_Net_passOneTick_28 (by decide) ?_
    refine rx_icmp_ge C.1 (pc := 29) d_Net_passOneTick_29 (tgt := 43) rfl (fun _ => ?_) (fun h9 => absurd (by decide) h9) 
    refine rx_iconst C.1 (v := 0) (pc := 43) d_Net_passOneTick_43 (by decide) ?_
    refine rx_istore_n C.1 (pc := 44) d_Net_passOneTick_44 (by decide) ?_
    refine rx_iload_n C.1 (pc := 45) d_Net_passOneTick_45 rfl ?_
    refine rx_iconst C.1 (v := 2) (pc := 46) d_Net_passOneTick_46 (by decide) ?_
    refine rx_icmp_ge C.1 (pc := 47) d_Net_passOneTick_47 (tgt := 65) rfl (fun h9 => absurd h9 (by decide)) (fun _ => ?_)
    refine rx_aload_n C.1 (pc := 50) d_Net_passOneTick_50 rfl ?_
    refine g_Net_31 D b ca C (pc := 51) d_Net_passOneTick_51 ?_
    refine rx_iload_n C.1 (pc := 54) d_Net_passOneTick_54 rfl ?_
    refine rx_ald_mobs D b ca C (pc := 55) d_Net_passOneTick_55 (by first | assumption | exact rx_in2 (by assumption) | exact rx_v02 | exact rx_v12) ?_
    refine q_Net_171 D b ca C (by first | assumption | (constructor <;> omega) | omega | decide) (pc := 56) d_Net_passOneTick_56 (c_Mob_notice l D b ca (by first | assumption | (constructor <;> omega) | omega | decide) ) ⟨Nat.le_of_ble_eq_true rfl, Nat.le_of_ble_eq_true rfl⟩ ⟨Nat.zero_le _, Nat.zero_le _⟩ (Nat.le_of_ble_eq_true rfl) ?_
    refine rx_iinc C.1 (v := 1) (pc := 59) d_Net_passOneTick_59 rfl (by decide) (by decide) ?_
    refine rx_goto C.1 (pc := 62) d_Net_passOneTick_62 (tgt := 45) rfl ?_
    refine rx_iload_n C.1 (pc := 45) d_Net_passOneTick_45 rfl ?_
    refine rx_iconst C.1 (v := 2) (pc := 46) d_Net_passOneTick_46 (by decide) ?_
    refine rx_icmp_ge C.1 (pc := 47) d_Net_passOneTick_47 (tgt := 65) rfl (fun h9 => absurd h9 (by decide)) (fun _ => ?_)
    refine rx_aload_n C.1 (pc := 50) d_Net_passOneTick_50 rfl ?_
    refine g_Net_31 D b ca C (pc := 51) d_Net_passOneTick_51 ?_
    refine rx_iload_n C.1 (pc := 54) d_Net_passOneTick_54 rfl ?_
    refine rx_ald_mobs D b ca C (pc := 55) d_Net_passOneTick_55 (by first | assumption | exact rx_in2 (by assumption) | exact rx_v02 | exact rx_v12) ?_
    refine q_Net_171 D b ca C (by first | assumption | (constructor <;> omega) | omega | decide) (pc := 56) d_Net_passOneTick_56 (c_Mob_notice l D b ca (by first | assumption | (constructor <;> omega) | omega | decide) ) ⟨Nat.le_of_ble_eq_true rfl, Nat.le_of_ble_eq_true rfl⟩ ⟨Nat.zero_le _, Nat.zero_le _⟩ (Nat.le_of_ble_eq_true rfl) ?_
    refine rx_iinc C.1 (v := 2) (pc := 59) d_Net_passOneTick_59 rfl (by decide) (by decide) ?_
    refine rx_goto C.1 (pc := 62) d_Net_passOneTick_62 (tgt := 45) rfl ?_
    refine rx_iload_n C.1 (pc := 45) d_Net_passOneTick_45 rfl ?_
    refine rx_iconst C.1 (v := 2) (pc := 46) d_Net_passOneTick_46 (by decide) ?_
    refine rx_icmp_ge C.1 (pc := 47) d_Net_passOneTick_47 (tgt := 65) rfl (fun _ => ?_) (fun h9 => absurd (by decide) h9) 
    refine rx_iconst C.1 (v := 0) (pc := 65) d_Net_passOneTick_65 (by decide) ?_
    refine rx_istore_n C.1 (pc := 66) d_Net_passOneTick_66 (by decide) ?_
    refine rx_iload_n C.1 (pc := 67) d_Net_passOneTick_67 rfl ?_
    refine rx_iconst C.1 (v := 2) (pc := 68) d_Net_passOneTick_68 (by decide) ?_
    refine rx_icmp_ge C.1 (pc := 69) d_Net_passOneTick_69 (tgt := 86) rfl (fun h9 => absurd h9 (by decide)) (fun _ => ?_)
    refine rx_aload_n C.1 (pc := 72) d_Net_passOneTick_72 rfl ?_
    refine g_Net_59 D b ca C (pc := 73) d_Net_passOneTick_73 ?_
    refine rx_iload_n C.1 (pc := 76) d_Net_passOneTick_76 rfl ?_
    refine q_Net_174 D b ca C (pc := 77) d_Net_passOneTick_77 (c_Corr_resendIfDue l D b ca (by first | assumption | exact rx_iM0 | exact rx_iM1 | (constructor <;> omega))) ⟨Nat.le_of_ble_eq_true rfl, Nat.le_of_ble_eq_true rfl⟩ ⟨Nat.zero_le _, Nat.zero_le _⟩ (Nat.le_of_ble_eq_true rfl) ?_
    refine rx_iinc C.1 (v := 1) (pc := 80) d_Net_passOneTick_80 rfl (by decide) (by decide) ?_
    refine rx_goto C.1 (pc := 83) d_Net_passOneTick_83 (tgt := 67) rfl ?_
    refine rx_iload_n C.1 (pc := 67) d_Net_passOneTick_67 rfl ?_
    refine rx_iconst C.1 (v := 2) (pc := 68) d_Net_passOneTick_68 (by decide) ?_
    refine rx_icmp_ge C.1 (pc := 69) d_Net_passOneTick_69 (tgt := 86) rfl (fun h9 => absurd h9 (by decide)) (fun _ => ?_)
    refine rx_aload_n C.1 (pc := 72) d_Net_passOneTick_72 rfl ?_
    refine g_Net_59 D b ca C (pc := 73) d_Net_passOneTick_73 ?_
    refine rx_iload_n C.1 (pc := 76) d_Net_passOneTick_76 rfl ?_
    refine q_Net_174 D b ca C (pc := 77) d_Net_passOneTick_77 (c_Corr_resendIfDue l D b ca (by first | assumption | exact rx_iM0 | exact rx_iM1 | (constructor <;> omega))) ⟨Nat.le_of_ble_eq_true rfl, Nat.le_of_ble_eq_true rfl⟩ ⟨Nat.zero_le _, Nat.zero_le _⟩ (Nat.le_of_ble_eq_true rfl) ?_
    refine rx_iinc C.1 (v := 2) (pc := 80) d_Net_passOneTick_80 rfl (by decide) (by decide) ?_
    refine rx_goto C.1 (pc := 83) d_Net_passOneTick_83 (tgt := 67) rfl ?_
    refine rx_iload_n C.1 (pc := 67) d_Net_passOneTick_67 rfl ?_
    refine rx_iconst C.1 (v := 2) (pc := 68) d_Net_passOneTick_68 (by decide) ?_
    refine rx_icmp_ge C.1 (pc := 69) d_Net_passOneTick_69 (tgt := 86) rfl (fun _ => ?_) (fun h9 => absurd (by decide) h9) 
    exact rx_vret C (pc := 86) d_Net_passOneTick_86 (by unfold sp_Net_passOneTick; first | (simp only [if_pos h1]; done) | (simp only [if_pos h1]; rfl))
end
section
set_option maxHeartbeats 4000000 in
set_option maxRecDepth 100000 in
theorem it_Net_tick (l : Launch) (D : va_G) (b : Nat) (ca : Nat → ClassId) {p : Program} {e : Env} {s : State} {mm : MethodId} {args : Array Value} {below : List Frame} {meth : Method} {c : Code} {H0 : Heap} {Q : State → Prop} {σ : rMem} {n k : Int32} (C : rx_Cw p s mm args meth c R_Net b_Net_tick 3 (some .boolean) (rx_fin D b ca)) 
    (kx : n ≤ k → rx_X p l e (rx_rm 6) s mm args below meth c (rg_O (rx_fin D b ca)) H0 0 0 Q 3 (rx_m (rx_fin D b ca) σ) 29 [(2, .int k), (0, .ref (rg_A (rx_fin D b ca) 0)), (1, .int n)] []) (kb : ¬ n ≤ k → rx_X p l e (rx_rm 6) s mm args below meth c (rg_O (rx_fin D b ca)) H0 0 0 Q 3 (rx_m (rx_fin D b ca) (sp_Net_passOneTick σ)) 14 [(2, .int (k + 1)), (0, .ref (rg_A (rx_fin D b ca) 0)), (1, .int n)] []) : rx_X p l e (rx_rm 6) s mm args below meth c (rg_O (rx_fin D b ca)) H0 0 0 Q 3 (rx_m (rx_fin D b ca) σ) 14 [(2, .int k), (0, .ref (rg_A (rx_fin D b ca) 0)), (1, .int n)] [] := by
  refine rx_iload_n C.1 (pc := 14) d_Net_tick_14 rfl ?_
  refine rx_iload_n C.1 (pc := 15) d_Net_tick_15 rfl ?_
  refine rx_icmp_ge C.1 (pc := 16) d_Net_tick_16 (tgt := 29) rfl (fun h1 => ?_) (fun h1 => ?_)
  ·
    exact kx h1
  ·
    refine rx_aload_n C.1 (pc := 19) d_Net_tick_19 rfl ?_
    refine q_Net_78 D b ca C (pc := 20) d_Net_tick_20 (c_Net_passOneTick l D b ca ) ⟨Nat.le_of_ble_eq_true rfl, Nat.le_of_ble_eq_true rfl⟩ ⟨Nat.zero_le _, Nat.zero_le _⟩ (Nat.le_of_ble_eq_true rfl) ?_
    refine rx_iinc C.1 (v := k + 1) (pc := 23) d_Net_tick_23 rfl rfl (by decide) ?_
    refine rx_goto C.1 (pc := 26) d_Net_tick_26 (tgt := 14) rfl ?_
    refine rx_loc C.1 (rx_sub_all (lo' := [(2, .int (k + 1)), (0, .ref (rg_A (rx_fin D b ca) 0)), (1, .int n)]) ⟨rfl, rfl, rfl, trivial⟩) ?_
    exact kb h1
theorem tk_pos {n : Int32} (h : ¬ rv_Net_isWithin n 1 20 = 0) : 1 ≤ n.toInt ∧ n.toInt ≤ 20 := by
  unfold rv_Net_isWithin at h
  have e20 : (20 : Int32).toInt = 20 := rfl
  by_cases h1 : n < 1
  · rw [if_pos h1] at h
    exact absurd rfl h
  · rw [if_neg h1] at h
    by_cases h2 : 20 < n
    · rw [if_pos h2] at h
      exact absurd rfl h
    · rw [rx_ltI] at h1 h2
      rw [rx_I1] at h1
      rw [e20] at h2
      exact ⟨by omega, by omega⟩
def it_n (f : rMem → rMem) : Nat → rMem → rMem
  | 0, σ => σ
  | n + 1, σ => it_n f n (f σ)
theorem lp_Net_tick1 (l : Launch) (D : va_G) (b : Nat) (ca : Nat → ClassId) {p : Program} {e : Env} {s : State} {mm : MethodId} {args : Array Value} {below : List Frame} {meth : Method} {c : Code} {H0 : Heap} {Q : State → Prop} {n : Int32} (C : rx_Cw p s mm args meth c R_Net b_Net_tick 3 (some .boolean) (rx_fin D b ca)) :
    ∀ (j : Nat) (σ : rMem) (k : Int32), n.toInt - k.toInt = j →
      (∀ k' : Int32, rx_X p l e (rx_rm 6) s mm args below meth c (rg_O (rx_fin D b ca)) H0 0 0 Q 3 (rx_m (rx_fin D b ca) (it_n sp_Net_passOneTick j σ)) 29 [(2, .int k'), (0, .ref (rg_A (rx_fin D b ca) 0)), (1, .int n)] []) →
      rx_X p l e (rx_rm 6) s mm args below meth c (rg_O (rx_fin D b ca)) H0 0 0 Q 3 (rx_m (rx_fin D b ca) σ) 14 [(2, .int k), (0, .ref (rg_A (rx_fin D b ca) 0)), (1, .int n)] [] := by
  intro j
  induction j with
  | zero =>
    intro σ k hn kx
    exact it_Net_tick l D b ca C (fun h => kx k) (fun h => absurd (rx_leI.mpr (by omega)) h)
  | succ j ih =>
    intro σ k hn kx
    have h1 := rx_hi n
    have h2 := rx_lo k
    refine it_Net_tick l D b ca C (fun h => absurd (rx_leI.mp h) (by omega)) (fun h => ih _ _ ?_ (fun k' => kx k'))
    rw [rx_addI (by rw [rx_I1]; omega) (by rw [rx_I1]; omega), rx_I1]
    omega
theorem lp_Net_tick (l : Launch) (D : va_G) (b : Nat) (ca : Nat → ClassId) {p : Program} {e : Env} {s : State} {mm : MethodId} {args : Array Value} {below : List Frame} {meth : Method} {c : Code} {H0 : Heap} {Q : State → Prop} {n : Int32} {σ : rMem} (C : rx_Cw p s mm args meth c R_Net b_Net_tick 3 (some .boolean) (rx_fin D b ca)) (hn : 1 ≤ n.toInt ∧ n.toInt ≤ 20)
    (kx : ∀ k' : Int32, rx_X p l e (rx_rm 6) s mm args below meth c (rg_O (rx_fin D b ca)) H0 0 0 Q 3 (rx_m (rx_fin D b ca) (it_n sp_Net_passOneTick n.toNatClampNeg σ)) 29 [(2, .int k'), (0, .ref (rg_A (rx_fin D b ca) 0)), (1, .int n)] []) :
    rx_X p l e (rx_rm 6) s mm args below meth c (rg_O (rx_fin D b ca)) H0 0 0 Q 3 (rx_m (rx_fin D b ca) σ) 14 [(2, .int 0), (0, .ref (rg_A (rx_fin D b ca) 0)), (1, .int n)] [] :=
  lp_Net_tick1 l D b ca C n.toNatClampNeg σ 0 (by have := rx_cn (x := n) (by omega); rw [rx_I0]; omega) kx
def sp_Net_tick (σ : rMem) (n : Int32) : rMem × Int32 := if (rv_Net_isWithin n 1 20) = 0 then (σ, 0) else (let m1 := it_n sp_Net_passOneTick n.toNatClampNeg σ; (m1, 1))
set_option maxHeartbeats 4000000 in
set_option maxRecDepth 100000 in
theorem c_Net_tick (l : Launch) (D : va_G) (b : Nat) (ca : Nat → ClassId) {σ : rMem} {n : Int32} : rx_C l (rx_fin D b ca) y_Net_tick b_Net_tick 3 (some .boolean) (rx_rm 6) [.ref (rg_A (rx_fin D b ca) 0), .int n] σ (some (.int (sp_Net_tick σ n).2)) (sp_Net_tick σ n).1 := by
  refine rx_of (lo := [(0, .ref (rg_A (rx_fin D b ca) 0)), (1, .int n)]) (by decide) (rx_fin_D D b ca) rfl (Nat.le_of_ble_eq_true rfl) rfl ?_
  intro p e s mm below meth c C
  refine rx_iload_n C.1 (pc := 0) d_Net_tick_0 rfl ?_
  refine rx_iconst C.1 (v := 1) (pc := 1) d_Net_tick_1 (by decide) ?_
  refine rx_bipush C.1 (v := 20) (pc := 2) d_Net_tick_2 (by decide) ?_
  refine q_Net_11 C.1 (pc := 4) d_Net_tick_4 (c_Net_isWithin l ) ⟨Nat.le_of_ble_eq_true rfl, Nat.le_of_ble_eq_true rfl⟩ ⟨Nat.zero_le _, Nat.zero_le _⟩ (Nat.le_of_ble_eq_true rfl) ?_
  refine rx_if_ne C.1 (pc := 7) d_Net_tick_7 (tgt := 12) rfl (fun h1 => ?_) (fun h1 => ?_)
  ·
    refine rx_iconst C.1 (v := 0) (pc := 12) d_Net_tick_12 (by decide) ?_
    refine rx_istore_n C.1 (pc := 13) d_Net_tick_13 (by decide) ?_
    refine rx_loc C.1 (rx_sub_all (lo' := [(2, .int 0), (0, .ref (rg_A (rx_fin D b ca) 0)), (1, .int n)]) ⟨rfl, rfl, rfl, trivial⟩) ?_
    refine lp_Net_tick l D b ca C (tk_pos h1) (fun k' => ?_)
    refine rx_iconst C.1 (v := 1) (pc := 29) d_Net_tick_29 (by decide) ?_
    exact rx_zret C (pc := 30) d_Net_tick_30 (Or.inr rfl) (by unfold sp_Net_tick; first | (simp only [if_neg h1]; done) | (simp only [if_neg h1]; rfl)) (by unfold sp_Net_tick; first | (simp only [if_neg h1]; done) | (simp only [if_neg h1]; rfl))
  ·
    refine rx_iconst C.1 (v := 0) (pc := 10) d_Net_tick_10 (by decide) ?_
    exact rx_zret C (pc := 11) d_Net_tick_11 (Or.inl rfl) (by unfold sp_Net_tick; first | (simp only [if_pos h1]; done) | (simp only [if_pos h1]; rfl)) (by unfold sp_Net_tick; first | (simp only [if_pos h1]; done) | (simp only [if_pos h1]; rfl))
end
