section
-- ===== PART A: goes FIRST, ahead of the names: the tables' words, and 'selects' of the private methods out of them =====
/-- a private method of a class that the tables say can be made, by its rows of tables_1 -/
def lw_okq (q : MethodName × Nat) : Prop := (q.1.cls ≠ "java/lang/invoke/MethodHandle" ∧ q.1.cls ≠ "java/lang/invoke/VarHandle") ∧ Cond.instantiable q.1.cls q.2 ∈ tables_1 ∧ Cond.privateMethod q.1 ∈ tables_1 ∧ Cond.instanceMethod q.1 ∈ tables_1
theorem lw_p0 : lw_okq (⟨"LeasePair$MessageList", "removeSentBefore", "(I)V"⟩, 3) := ⟨⟨by decide +kernel, by decide +kernel⟩, List.mem_of_getElem? (i := 121) (by decide +kernel), List.mem_of_getElem? (i := 235) (by decide +kernel), List.mem_of_getElem? (i := 236) (by decide +kernel)⟩
theorem lw_p1 : lw_okq (⟨"LeasePair$MessageList", "removeVanishing", "()V"⟩, 3) := ⟨⟨by decide +kernel, by decide +kernel⟩, List.mem_of_getElem? (i := 121) (by decide +kernel), List.mem_of_getElem? (i := 239) (by decide +kernel), List.mem_of_getElem? (i := 240) (by decide +kernel)⟩
theorem lw_p2 : lw_okq (⟨"LeasePair$MessageList", "swap", "(II)V"⟩, 3) := ⟨⟨by decide +kernel, by decide +kernel⟩, List.mem_of_getElem? (i := 121) (by decide +kernel), List.mem_of_getElem? (i := 243) (by decide +kernel), List.mem_of_getElem? (i := 244) (by decide +kernel)⟩
theorem lw_p3 : lw_okq (⟨"LeasePair$Client", "dropExpired", "(I)V"⟩, 5) := ⟨⟨by decide +kernel, by decide +kernel⟩, List.mem_of_getElem? (i := 95) (by decide +kernel), List.mem_of_getElem? (i := 247) (by decide +kernel), List.mem_of_getElem? (i := 248) (by decide +kernel)⟩
theorem lw_p4 : lw_okq (⟨"LeasePair$Client", "holdNone", "()V"⟩, 5) := ⟨⟨by decide +kernel, by decide +kernel⟩, List.mem_of_getElem? (i := 95) (by decide +kernel), List.mem_of_getElem? (i := 251) (by decide +kernel), List.mem_of_getElem? (i := 252) (by decide +kernel)⟩
theorem lw_p5 : lw_okq (⟨"LeasePair", "tickServer", "(LLeasePair$Server;)V"⟩, 5) := ⟨⟨by decide +kernel, by decide +kernel⟩, List.mem_of_getElem? (i := 10) (by decide +kernel), List.mem_of_getElem? (i := 255) (by decide +kernel), List.mem_of_getElem? (i := 256) (by decide +kernel)⟩
theorem lw_p6 : lw_okq (⟨"LeasePair", "hasContact", "()Z"⟩, 5) := ⟨⟨by decide +kernel, by decide +kernel⟩, List.mem_of_getElem? (i := 10) (by decide +kernel), List.mem_of_getElem? (i := 259) (by decide +kernel), List.mem_of_getElem? (i := 260) (by decide +kernel)⟩
theorem lw_p7 : lw_okq (⟨"LeasePair$Server", "followContact", "(ZI)V"⟩, 7) := ⟨⟨by decide +kernel, by decide +kernel⟩, List.mem_of_getElem? (i := 19) (by decide +kernel), List.mem_of_getElem? (i := 263) (by decide +kernel), List.mem_of_getElem? (i := 264) (by decide +kernel)⟩
theorem lw_p8 : lw_okq (⟨"LeasePair$Server", "isPastLead", "(I)Z"⟩, 7) := ⟨⟨by decide +kernel, by decide +kernel⟩, List.mem_of_getElem? (i := 19) (by decide +kernel), List.mem_of_getElem? (i := 267) (by decide +kernel), List.mem_of_getElem? (i := 268) (by decide +kernel)⟩
theorem lw_p9 : lw_okq (⟨"LeasePair$Server", "serves", "()Z"⟩, 7) := ⟨⟨by decide +kernel, by decide +kernel⟩, List.mem_of_getElem? (i := 19) (by decide +kernel), List.mem_of_getElem? (i := 271) (by decide +kernel), List.mem_of_getElem? (i := 272) (by decide +kernel)⟩
theorem lw_p10 : lw_okq (⟨"LeasePair$Server", "endExpired", "(I)V"⟩, 7) := ⟨⟨by decide +kernel, by decide +kernel⟩, List.mem_of_getElem? (i := 19) (by decide +kernel), List.mem_of_getElem? (i := 275) (by decide +kernel), List.mem_of_getElem? (i := 276) (by decide +kernel)⟩
theorem lw_p11 : lw_okq (⟨"LeasePair$LeaseRecord", "end", "()V"⟩, 8) := ⟨⟨by decide +kernel, by decide +kernel⟩, List.mem_of_getElem? (i := 26) (by decide +kernel), List.mem_of_getElem? (i := 279) (by decide +kernel), List.mem_of_getElem? (i := 280) (by decide +kernel)⟩
theorem lw_p12 : lw_okq (⟨"LeasePair$LeaseRecord", "change", "()V"⟩, 8) := ⟨⟨by decide +kernel, by decide +kernel⟩, List.mem_of_getElem? (i := 26) (by decide +kernel), List.mem_of_getElem? (i := 283) (by decide +kernel), List.mem_of_getElem? (i := 284) (by decide +kernel)⟩
theorem lw_p13 : lw_okq (⟨"LeasePair", "tellPartner", "(LLeasePair$Server;)V"⟩, 5) := ⟨⟨by decide +kernel, by decide +kernel⟩, List.mem_of_getElem? (i := 10) (by decide +kernel), List.mem_of_getElem? (i := 287) (by decide +kernel), List.mem_of_getElem? (i := 288) (by decide +kernel)⟩
theorem lw_p14 : lw_okq (⟨"LeasePair", "sendUpdates", "(LLeasePair$Server;)V"⟩, 5) := ⟨⟨by decide +kernel, by decide +kernel⟩, List.mem_of_getElem? (i := 10) (by decide +kernel), List.mem_of_getElem? (i := 291) (by decide +kernel), List.mem_of_getElem? (i := 292) (by decide +kernel)⟩
theorem lw_p15 : lw_okq (⟨"LeasePair", "sendUpdate", "(LLeasePair$Server;I)V"⟩, 5) := ⟨⟨by decide +kernel, by decide +kernel⟩, List.mem_of_getElem? (i := 10) (by decide +kernel), List.mem_of_getElem? (i := 295) (by decide +kernel), List.mem_of_getElem? (i := 296) (by decide +kernel)⟩
def lw_privs_1 : List (MethodName × Nat) := [(⟨"LeasePair$MessageList", "removeSentBefore", "(I)V"⟩, 3), (⟨"LeasePair$MessageList", "removeVanishing", "()V"⟩, 3), (⟨"LeasePair$MessageList", "swap", "(II)V"⟩, 3), (⟨"LeasePair$Client", "dropExpired", "(I)V"⟩, 5), (⟨"LeasePair$Client", "holdNone", "()V"⟩, 5), (⟨"LeasePair", "tickServer", "(LLeasePair$Server;)V"⟩, 5), (⟨"LeasePair", "hasContact", "()Z"⟩, 5), (⟨"LeasePair$Server", "followContact", "(ZI)V"⟩, 7), (⟨"LeasePair$Server", "isPastLead", "(I)Z"⟩, 7), (⟨"LeasePair$Server", "serves", "()Z"⟩, 7), (⟨"LeasePair$Server", "endExpired", "(I)V"⟩, 7), (⟨"LeasePair$LeaseRecord", "end", "()V"⟩, 8), (⟨"LeasePair$LeaseRecord", "change", "()V"⟩, 8), (⟨"LeasePair", "tellPartner", "(LLeasePair$Server;)V"⟩, 5), (⟨"LeasePair", "sendUpdates", "(LLeasePair$Server;)V"⟩, 5), (⟨"LeasePair", "sendUpdate", "(LLeasePair$Server;I)V"⟩, 5)]
theorem lw_r1 : ∀ q ∈ lw_privs_1, lw_okq q := List.forall_mem_cons.mpr ⟨lw_p0, List.forall_mem_cons.mpr ⟨lw_p1, List.forall_mem_cons.mpr ⟨lw_p2, List.forall_mem_cons.mpr ⟨lw_p3, List.forall_mem_cons.mpr ⟨lw_p4, List.forall_mem_cons.mpr ⟨lw_p5, List.forall_mem_cons.mpr ⟨lw_p6, List.forall_mem_cons.mpr ⟨lw_p7, List.forall_mem_cons.mpr ⟨lw_p8, List.forall_mem_cons.mpr ⟨lw_p9, List.forall_mem_cons.mpr ⟨lw_p10, List.forall_mem_cons.mpr ⟨lw_p11, List.forall_mem_cons.mpr ⟨lw_p12, List.forall_mem_cons.mpr ⟨lw_p13, List.forall_mem_cons.mpr ⟨lw_p14, List.forall_mem_cons.mpr ⟨lw_p15, fun _ h => absurd h List.not_mem_nil⟩⟩⟩⟩⟩⟩⟩⟩⟩⟩⟩⟩⟩⟩⟩⟩
theorem lw_p16 : lw_okq (⟨"LeasePair$MessageList", "append", "(IIII)LLeasePair$Message;"⟩, 3) := ⟨⟨by decide +kernel, by decide +kernel⟩, List.mem_of_getElem? (i := 121) (by decide +kernel), List.mem_of_getElem? (i := 299) (by decide +kernel), List.mem_of_getElem? (i := 300) (by decide +kernel)⟩
theorem lw_p17 : lw_okq (⟨"LeasePair", "sendDemand", "(LLeasePair$Server;)V"⟩, 5) := ⟨⟨by decide +kernel, by decide +kernel⟩, List.mem_of_getElem? (i := 10) (by decide +kernel), List.mem_of_getElem? (i := 303) (by decide +kernel), List.mem_of_getElem? (i := 304) (by decide +kernel)⟩
theorem lw_p18 : lw_okq (⟨"LeasePair$Client", "pauses", "(I)Z"⟩, 5) := ⟨⟨by decide +kernel, by decide +kernel⟩, List.mem_of_getElem? (i := 95) (by decide +kernel), List.mem_of_getElem? (i := 317) (by decide +kernel), List.mem_of_getElem? (i := 318) (by decide +kernel)⟩
theorem lw_p19 : lw_okq (⟨"LeasePair", "sendWithTicket", "(IIII)V"⟩, 5) := ⟨⟨by decide +kernel, by decide +kernel⟩, List.mem_of_getElem? (i := 10) (by decide +kernel), List.mem_of_getElem? (i := 321) (by decide +kernel), List.mem_of_getElem? (i := 322) (by decide +kernel)⟩
theorem lw_p20 : lw_okq (⟨"LeasePair$MessageList", "has", "(I)Z"⟩, 3) := ⟨⟨by decide +kernel, by decide +kernel⟩, List.mem_of_getElem? (i := 121) (by decide +kernel), List.mem_of_getElem? (i := 334) (by decide +kernel), List.mem_of_getElem? (i := 335) (by decide +kernel)⟩
theorem lw_p21 : lw_okq (⟨"LeasePair$MessageList", "take", "(I)LLeasePair$Message;"⟩, 3) := ⟨⟨by decide +kernel, by decide +kernel⟩, List.mem_of_getElem? (i := 121) (by decide +kernel), List.mem_of_getElem? (i := 338) (by decide +kernel), List.mem_of_getElem? (i := 339) (by decide +kernel)⟩
theorem lw_p22 : lw_okq (⟨"LeasePair", "canArrive", "(LLeasePair$Message;)Z"⟩, 5) := ⟨⟨by decide +kernel, by decide +kernel⟩, List.mem_of_getElem? (i := 10) (by decide +kernel), List.mem_of_getElem? (i := 342) (by decide +kernel), List.mem_of_getElem? (i := 343) (by decide +kernel)⟩
theorem lw_p23 : lw_okq (⟨"LeasePair$Message", "isBetweenServers", "()Z"⟩, 15) := ⟨⟨by decide +kernel, by decide +kernel⟩, List.mem_of_getElem? (i := 128) (by decide +kernel), List.mem_of_getElem? (i := 346) (by decide +kernel), List.mem_of_getElem? (i := 347) (by decide +kernel)⟩
theorem lw_p24 : lw_okq (⟨"LeasePair$Message", "goesToServer", "()Z"⟩, 15) := ⟨⟨by decide +kernel, by decide +kernel⟩, List.mem_of_getElem? (i := 128) (by decide +kernel), List.mem_of_getElem? (i := 350) (by decide +kernel), List.mem_of_getElem? (i := 351) (by decide +kernel)⟩
theorem lw_p25 : lw_okq (⟨"LeasePair", "arrive", "(LLeasePair$Message;)V"⟩, 5) := ⟨⟨by decide +kernel, by decide +kernel⟩, List.mem_of_getElem? (i := 10) (by decide +kernel), List.mem_of_getElem? (i := 354) (by decide +kernel), List.mem_of_getElem? (i := 355) (by decide +kernel)⟩
theorem lw_p26 : lw_okq (⟨"LeasePair", "arriveAsk", "(LLeasePair$Message;)V"⟩, 5) := ⟨⟨by decide +kernel, by decide +kernel⟩, List.mem_of_getElem? (i := 10) (by decide +kernel), List.mem_of_getElem? (i := 358) (by decide +kernel), List.mem_of_getElem? (i := 359) (by decide +kernel)⟩
theorem lw_p27 : lw_okq (⟨"LeasePair$Server", "choose", "(II)I"⟩, 7) := ⟨⟨by decide +kernel, by decide +kernel⟩, List.mem_of_getElem? (i := 19) (by decide +kernel), List.mem_of_getElem? (i := 362) (by decide +kernel), List.mem_of_getElem? (i := 363) (by decide +kernel)⟩
theorem lw_p28 : lw_okq (⟨"LeasePair$Server", "leastLentTo", "(I)I"⟩, 7) := ⟨⟨by decide +kernel, by decide +kernel⟩, List.mem_of_getElem? (i := 19) (by decide +kernel), List.mem_of_getElem? (i := 366) (by decide +kernel), List.mem_of_getElem? (i := 367) (by decide +kernel)⟩
theorem lw_p29 : lw_okq (⟨"LeasePair$LeaseRecord", "isLentTo", "(I)Z"⟩, 8) := ⟨⟨by decide +kernel, by decide +kernel⟩, List.mem_of_getElem? (i := 26) (by decide +kernel), List.mem_of_getElem? (i := 370) (by decide +kernel), List.mem_of_getElem? (i := 371) (by decide +kernel)⟩
theorem lw_p30 : lw_okq (⟨"LeasePair$Server", "leastFree", "(Z)I"⟩, 7) := ⟨⟨by decide +kernel, by decide +kernel⟩, List.mem_of_getElem? (i := 19) (by decide +kernel), List.mem_of_getElem? (i := 374) (by decide +kernel), List.mem_of_getElem? (i := 375) (by decide +kernel)⟩
theorem lw_p31 : lw_okq (⟨"LeasePair$Server", "leastLongPast", "(I)I"⟩, 7) := ⟨⟨by decide +kernel, by decide +kernel⟩, List.mem_of_getElem? (i := 19) (by decide +kernel), List.mem_of_getElem? (i := 378) (by decide +kernel), List.mem_of_getElem? (i := 379) (by decide +kernel)⟩
def lw_privs_2 : List (MethodName × Nat) := [(⟨"LeasePair$MessageList", "append", "(IIII)LLeasePair$Message;"⟩, 3), (⟨"LeasePair", "sendDemand", "(LLeasePair$Server;)V"⟩, 5), (⟨"LeasePair$Client", "pauses", "(I)Z"⟩, 5), (⟨"LeasePair", "sendWithTicket", "(IIII)V"⟩, 5), (⟨"LeasePair$MessageList", "has", "(I)Z"⟩, 3), (⟨"LeasePair$MessageList", "take", "(I)LLeasePair$Message;"⟩, 3), (⟨"LeasePair", "canArrive", "(LLeasePair$Message;)Z"⟩, 5), (⟨"LeasePair$Message", "isBetweenServers", "()Z"⟩, 15), (⟨"LeasePair$Message", "goesToServer", "()Z"⟩, 15), (⟨"LeasePair", "arrive", "(LLeasePair$Message;)V"⟩, 5), (⟨"LeasePair", "arriveAsk", "(LLeasePair$Message;)V"⟩, 5), (⟨"LeasePair$Server", "choose", "(II)I"⟩, 7), (⟨"LeasePair$Server", "leastLentTo", "(I)I"⟩, 7), (⟨"LeasePair$LeaseRecord", "isLentTo", "(I)Z"⟩, 8), (⟨"LeasePair$Server", "leastFree", "(Z)I"⟩, 7), (⟨"LeasePair$Server", "leastLongPast", "(I)I"⟩, 7)]
theorem lw_r2 : ∀ q ∈ lw_privs_2, lw_okq q := List.forall_mem_cons.mpr ⟨lw_p16, List.forall_mem_cons.mpr ⟨lw_p17, List.forall_mem_cons.mpr ⟨lw_p18, List.forall_mem_cons.mpr ⟨lw_p19, List.forall_mem_cons.mpr ⟨lw_p20, List.forall_mem_cons.mpr ⟨lw_p21, List.forall_mem_cons.mpr ⟨lw_p22, List.forall_mem_cons.mpr ⟨lw_p23, List.forall_mem_cons.mpr ⟨lw_p24, List.forall_mem_cons.mpr ⟨lw_p25, List.forall_mem_cons.mpr ⟨lw_p26, List.forall_mem_cons.mpr ⟨lw_p27, List.forall_mem_cons.mpr ⟨lw_p28, List.forall_mem_cons.mpr ⟨lw_p29, List.forall_mem_cons.mpr ⟨lw_p30, List.forall_mem_cons.mpr ⟨lw_p31, fun _ h => absurd h List.not_mem_nil⟩⟩⟩⟩⟩⟩⟩⟩⟩⟩⟩⟩⟩⟩⟩⟩
theorem lw_p32 : lw_okq (⟨"LeasePair$LeaseRecord", "isLongPast", "(I)Z"⟩, 8) := ⟨⟨by decide +kernel, by decide +kernel⟩, List.mem_of_getElem? (i := 26) (by decide +kernel), List.mem_of_getElem? (i := 382) (by decide +kernel), List.mem_of_getElem? (i := 383) (by decide +kernel)⟩
theorem lw_p33 : lw_okq (⟨"LeasePair$LeaseRecord", "lend", "(IIZ)V"⟩, 8) := ⟨⟨by decide +kernel, by decide +kernel⟩, List.mem_of_getElem? (i := 26) (by decide +kernel), List.mem_of_getElem? (i := 386) (by decide +kernel), List.mem_of_getElem? (i := 387) (by decide +kernel)⟩
theorem lw_p34 : lw_okq (⟨"LeasePair", "sendLease", "(LLeasePair$Message;II)V"⟩, 5) := ⟨⟨by decide +kernel, by decide +kernel⟩, List.mem_of_getElem? (i := 10) (by decide +kernel), List.mem_of_getElem? (i := 397) (by decide +kernel), List.mem_of_getElem? (i := 398) (by decide +kernel)⟩
theorem lw_p35 : lw_okq (⟨"LeasePair$Client", "takeLease", "(LLeasePair$Message;I)V"⟩, 5) := ⟨⟨by decide +kernel, by decide +kernel⟩, List.mem_of_getElem? (i := 95) (by decide +kernel), List.mem_of_getElem? (i := 401) (by decide +kernel), List.mem_of_getElem? (i := 402) (by decide +kernel)⟩
theorem lw_p36 : lw_okq (⟨"LeasePair$Client", "waitsFor", "(LLeasePair$Message;)Z"⟩, 5) := ⟨⟨by decide +kernel, by decide +kernel⟩, List.mem_of_getElem? (i := 95) (by decide +kernel), List.mem_of_getElem? (i := 405) (by decide +kernel), List.mem_of_getElem? (i := 406) (by decide +kernel)⟩
theorem lw_p37 : lw_okq (⟨"LeasePair$Client", "takeDenial", "(LLeasePair$Message;)V"⟩, 5) := ⟨⟨by decide +kernel, by decide +kernel⟩, List.mem_of_getElem? (i := 95) (by decide +kernel), List.mem_of_getElem? (i := 409) (by decide +kernel), List.mem_of_getElem? (i := 410) (by decide +kernel)⟩
theorem lw_p38 : lw_okq (⟨"LeasePair", "arriveRelease", "(LLeasePair$Message;)V"⟩, 5) := ⟨⟨by decide +kernel, by decide +kernel⟩, List.mem_of_getElem? (i := 10) (by decide +kernel), List.mem_of_getElem? (i := 413) (by decide +kernel), List.mem_of_getElem? (i := 414) (by decide +kernel)⟩
theorem lw_p39 : lw_okq (⟨"LeasePair", "arriveUpdate", "(LLeasePair$Message;)V"⟩, 5) := ⟨⟨by decide +kernel, by decide +kernel⟩, List.mem_of_getElem? (i := 10) (by decide +kernel), List.mem_of_getElem? (i := 419) (by decide +kernel), List.mem_of_getElem? (i := 420) (by decide +kernel)⟩
theorem lw_p40 : lw_okq (⟨"LeasePair$Server", "takeUpdate", "(LLeasePair$Message;I)Z"⟩, 7) := ⟨⟨by decide +kernel, by decide +kernel⟩, List.mem_of_getElem? (i := 19) (by decide +kernel), List.mem_of_getElem? (i := 423) (by decide +kernel), List.mem_of_getElem? (i := 424) (by decide +kernel)⟩
theorem lw_p41 : lw_okq (⟨"LeasePair$LeaseRecord", "takeUpdate", "(LLeasePair$Message;I)Z"⟩, 8) := ⟨⟨by decide +kernel, by decide +kernel⟩, List.mem_of_getElem? (i := 26) (by decide +kernel), List.mem_of_getElem? (i := 427) (by decide +kernel), List.mem_of_getElem? (i := 428) (by decide +kernel)⟩
theorem lw_p42 : lw_okq (⟨"LeasePair$LeaseRecord", "takeLent", "(LLeasePair$Message;I)Z"⟩, 8) := ⟨⟨by decide +kernel, by decide +kernel⟩, List.mem_of_getElem? (i := 26) (by decide +kernel), List.mem_of_getElem? (i := 431) (by decide +kernel), List.mem_of_getElem? (i := 432) (by decide +kernel)⟩
theorem lw_p43 : lw_okq (⟨"LeasePair$LeaseRecord", "runs", "(I)Z"⟩, 8) := ⟨⟨by decide +kernel, by decide +kernel⟩, List.mem_of_getElem? (i := 26) (by decide +kernel), List.mem_of_getElem? (i := 435) (by decide +kernel), List.mem_of_getElem? (i := 436) (by decide +kernel)⟩
theorem lw_p44 : lw_okq (⟨"LeasePair$LeaseRecord", "becomeLent", "(LLeasePair$Message;)V"⟩, 8) := ⟨⟨by decide +kernel, by decide +kernel⟩, List.mem_of_getElem? (i := 26) (by decide +kernel), List.mem_of_getElem? (i := 439) (by decide +kernel), List.mem_of_getElem? (i := 440) (by decide +kernel)⟩
theorem lw_p45 : lw_okq (⟨"LeasePair$LeaseRecord", "becomeFree", "(LLeasePair$Message;)V"⟩, 8) := ⟨⟨by decide +kernel, by decide +kernel⟩, List.mem_of_getElem? (i := 26) (by decide +kernel), List.mem_of_getElem? (i := 443) (by decide +kernel), List.mem_of_getElem? (i := 444) (by decide +kernel)⟩
theorem lw_p46 : lw_okq (⟨"LeasePair$LeaseRecord", "clear", "()V"⟩, 8) := ⟨⟨by decide +kernel, by decide +kernel⟩, List.mem_of_getElem? (i := 26) (by decide +kernel), List.mem_of_getElem? (i := 447) (by decide +kernel), List.mem_of_getElem? (i := 448) (by decide +kernel)⟩
theorem lw_p47 : lw_okq (⟨"LeasePair$Server", "hasGot", "(I)Z"⟩, 7) := ⟨⟨by decide +kernel, by decide +kernel⟩, List.mem_of_getElem? (i := 19) (by decide +kernel), List.mem_of_getElem? (i := 451) (by decide +kernel), List.mem_of_getElem? (i := 452) (by decide +kernel)⟩
def lw_privs_3 : List (MethodName × Nat) := [(⟨"LeasePair$LeaseRecord", "isLongPast", "(I)Z"⟩, 8), (⟨"LeasePair$LeaseRecord", "lend", "(IIZ)V"⟩, 8), (⟨"LeasePair", "sendLease", "(LLeasePair$Message;II)V"⟩, 5), (⟨"LeasePair$Client", "takeLease", "(LLeasePair$Message;I)V"⟩, 5), (⟨"LeasePair$Client", "waitsFor", "(LLeasePair$Message;)Z"⟩, 5), (⟨"LeasePair$Client", "takeDenial", "(LLeasePair$Message;)V"⟩, 5), (⟨"LeasePair", "arriveRelease", "(LLeasePair$Message;)V"⟩, 5), (⟨"LeasePair", "arriveUpdate", "(LLeasePair$Message;)V"⟩, 5), (⟨"LeasePair$Server", "takeUpdate", "(LLeasePair$Message;I)Z"⟩, 7), (⟨"LeasePair$LeaseRecord", "takeUpdate", "(LLeasePair$Message;I)Z"⟩, 8), (⟨"LeasePair$LeaseRecord", "takeLent", "(LLeasePair$Message;I)Z"⟩, 8), (⟨"LeasePair$LeaseRecord", "runs", "(I)Z"⟩, 8), (⟨"LeasePair$LeaseRecord", "becomeLent", "(LLeasePair$Message;)V"⟩, 8), (⟨"LeasePair$LeaseRecord", "becomeFree", "(LLeasePair$Message;)V"⟩, 8), (⟨"LeasePair$LeaseRecord", "clear", "()V"⟩, 8), (⟨"LeasePair$Server", "hasGot", "(I)Z"⟩, 7)]
theorem lw_r3 : ∀ q ∈ lw_privs_3, lw_okq q := List.forall_mem_cons.mpr ⟨lw_p32, List.forall_mem_cons.mpr ⟨lw_p33, List.forall_mem_cons.mpr ⟨lw_p34, List.forall_mem_cons.mpr ⟨lw_p35, List.forall_mem_cons.mpr ⟨lw_p36, List.forall_mem_cons.mpr ⟨lw_p37, List.forall_mem_cons.mpr ⟨lw_p38, List.forall_mem_cons.mpr ⟨lw_p39, List.forall_mem_cons.mpr ⟨lw_p40, List.forall_mem_cons.mpr ⟨lw_p41, List.forall_mem_cons.mpr ⟨lw_p42, List.forall_mem_cons.mpr ⟨lw_p43, List.forall_mem_cons.mpr ⟨lw_p44, List.forall_mem_cons.mpr ⟨lw_p45, List.forall_mem_cons.mpr ⟨lw_p46, List.forall_mem_cons.mpr ⟨lw_p47, fun _ h => absurd h List.not_mem_nil⟩⟩⟩⟩⟩⟩⟩⟩⟩⟩⟩⟩⟩⟩⟩⟩
theorem lw_p48 : lw_okq (⟨"LeasePair$LeaseRecord", "recover", "(LLeasePair$Message;I)Z"⟩, 8) := ⟨⟨by decide +kernel, by decide +kernel⟩, List.mem_of_getElem? (i := 26) (by decide +kernel), List.mem_of_getElem? (i := 455) (by decide +kernel), List.mem_of_getElem? (i := 456) (by decide +kernel)⟩
theorem lw_p49 : lw_okq (⟨"LeasePair$LeaseRecord", "isSameLease", "(LLeasePair$Message;)Z"⟩, 8) := ⟨⟨by decide +kernel, by decide +kernel⟩, List.mem_of_getElem? (i := 26) (by decide +kernel), List.mem_of_getElem? (i := 459) (by decide +kernel), List.mem_of_getElem? (i := 460) (by decide +kernel)⟩
theorem lw_p50 : lw_okq (⟨"LeasePair", "acknowledge", "(LLeasePair$Message;)V"⟩, 5) := ⟨⟨by decide +kernel, by decide +kernel⟩, List.mem_of_getElem? (i := 10) (by decide +kernel), List.mem_of_getElem? (i := 463) (by decide +kernel), List.mem_of_getElem? (i := 464) (by decide +kernel)⟩
theorem lw_p51 : lw_okq (⟨"LeasePair", "arriveAcknowledgement", "(LLeasePair$Message;)V"⟩, 5) := ⟨⟨by decide +kernel, by decide +kernel⟩, List.mem_of_getElem? (i := 10) (by decide +kernel), List.mem_of_getElem? (i := 467) (by decide +kernel), List.mem_of_getElem? (i := 468) (by decide +kernel)⟩
theorem lw_p52 : lw_okq (⟨"LeasePair$LeaseRecord", "takeAcknowledgement", "(LLeasePair$Message;)V"⟩, 8) := ⟨⟨by decide +kernel, by decide +kernel⟩, List.mem_of_getElem? (i := 26) (by decide +kernel), List.mem_of_getElem? (i := 471) (by decide +kernel), List.mem_of_getElem? (i := 472) (by decide +kernel)⟩
theorem lw_p53 : lw_okq (⟨"LeasePair", "arriveDemand", "(LLeasePair$Message;)V"⟩, 5) := ⟨⟨by decide +kernel, by decide +kernel⟩, List.mem_of_getElem? (i := 10) (by decide +kernel), List.mem_of_getElem? (i := 475) (by decide +kernel), List.mem_of_getElem? (i := 476) (by decide +kernel)⟩
theorem lw_p54 : lw_okq (⟨"LeasePair$Server", "markDirty", "(I)V"⟩, 7) := ⟨⟨by decide +kernel, by decide +kernel⟩, List.mem_of_getElem? (i := 19) (by decide +kernel), List.mem_of_getElem? (i := 479) (by decide +kernel), List.mem_of_getElem? (i := 480) (by decide +kernel)⟩
theorem lw_p55 : lw_okq (⟨"LeasePair$MessageList", "removeBetweenServers", "()V"⟩, 3) := ⟨⟨by decide +kernel, by decide +kernel⟩, List.mem_of_getElem? (i := 121) (by decide +kernel), List.mem_of_getElem? (i := 494) (by decide +kernel), List.mem_of_getElem? (i := 495) (by decide +kernel)⟩
theorem lw_p56 : lw_okq (⟨"LeasePair$Server", "beginRecovery", "(I)V"⟩, 7) := ⟨⟨by decide +kernel, by decide +kernel⟩, List.mem_of_getElem? (i := 19) (by decide +kernel), List.mem_of_getElem? (i := 503) (by decide +kernel), List.mem_of_getElem? (i := 504) (by decide +kernel)⟩
theorem lw_p57 : lw_okq (⟨"LeasePair", "partnerOf", "(LLeasePair$Server;)LLeasePair$Server;"⟩, 5) := ⟨⟨by decide +kernel, by decide +kernel⟩, List.mem_of_getElem? (i := 10) (by decide +kernel), List.mem_of_getElem? (i := 511) (by decide +kernel), List.mem_of_getElem? (i := 512) (by decide +kernel)⟩
theorem lw_p58 : lw_okq (⟨"LeasePair$LeaseRecord", "look", "(I)I"⟩, 8) := ⟨⟨by decide +kernel, by decide +kernel⟩, List.mem_of_getElem? (i := 26) (by decide +kernel), List.mem_of_getElem? (i := 527) (by decide +kernel), List.mem_of_getElem? (i := 528) (by decide +kernel)⟩
theorem lw_p59 : lw_okq (⟨"LeasePair$Client", "look", "(I)I"⟩, 5) := ⟨⟨by decide +kernel, by decide +kernel⟩, List.mem_of_getElem? (i := 95) (by decide +kernel), List.mem_of_getElem? (i := 535) (by decide +kernel), List.mem_of_getElem? (i := 536) (by decide +kernel)⟩
theorem lw_p60 : lw_okq (⟨"LeasePair$Message", "look", "(I)I"⟩, 15) := ⟨⟨by decide +kernel, by decide +kernel⟩, List.mem_of_getElem? (i := 128) (by decide +kernel), List.mem_of_getElem? (i := 547) (by decide +kernel), List.mem_of_getElem? (i := 548) (by decide +kernel)⟩
theorem lw_p61 : lw_okq (⟨"LeasePair$Message", "subject", "()I"⟩, 15) := ⟨⟨by decide +kernel, by decide +kernel⟩, List.mem_of_getElem? (i := 128) (by decide +kernel), List.mem_of_getElem? (i := 551) (by decide +kernel), List.mem_of_getElem? (i := 552) (by decide +kernel)⟩
theorem lw_p62 : lw_okq (⟨"LeasePair$Message", "detail", "()I"⟩, 15) := ⟨⟨by decide +kernel, by decide +kernel⟩, List.mem_of_getElem? (i := 128) (by decide +kernel), List.mem_of_getElem? (i := 555) (by decide +kernel), List.mem_of_getElem? (i := 556) (by decide +kernel)⟩
theorem lw_p63 : lw_okq (⟨"LeasePairModel", "out", "(I)V"⟩, 24) := ⟨⟨by decide +kernel, by decide +kernel⟩, List.mem_of_getElem? (i := 559) (by decide +kernel), List.mem_of_getElem? (i := 644) (by decide +kernel), List.mem_of_getElem? (i := 645) (by decide +kernel)⟩
def lw_privs_4 : List (MethodName × Nat) := [(⟨"LeasePair$LeaseRecord", "recover", "(LLeasePair$Message;I)Z"⟩, 8), (⟨"LeasePair$LeaseRecord", "isSameLease", "(LLeasePair$Message;)Z"⟩, 8), (⟨"LeasePair", "acknowledge", "(LLeasePair$Message;)V"⟩, 5), (⟨"LeasePair", "arriveAcknowledgement", "(LLeasePair$Message;)V"⟩, 5), (⟨"LeasePair$LeaseRecord", "takeAcknowledgement", "(LLeasePair$Message;)V"⟩, 8), (⟨"LeasePair", "arriveDemand", "(LLeasePair$Message;)V"⟩, 5), (⟨"LeasePair$Server", "markDirty", "(I)V"⟩, 7), (⟨"LeasePair$MessageList", "removeBetweenServers", "()V"⟩, 3), (⟨"LeasePair$Server", "beginRecovery", "(I)V"⟩, 7), (⟨"LeasePair", "partnerOf", "(LLeasePair$Server;)LLeasePair$Server;"⟩, 5), (⟨"LeasePair$LeaseRecord", "look", "(I)I"⟩, 8), (⟨"LeasePair$Client", "look", "(I)I"⟩, 5), (⟨"LeasePair$Message", "look", "(I)I"⟩, 15), (⟨"LeasePair$Message", "subject", "()I"⟩, 15), (⟨"LeasePair$Message", "detail", "()I"⟩, 15), (⟨"LeasePairModel", "out", "(I)V"⟩, 24)]
theorem lw_r4 : ∀ q ∈ lw_privs_4, lw_okq q := List.forall_mem_cons.mpr ⟨lw_p48, List.forall_mem_cons.mpr ⟨lw_p49, List.forall_mem_cons.mpr ⟨lw_p50, List.forall_mem_cons.mpr ⟨lw_p51, List.forall_mem_cons.mpr ⟨lw_p52, List.forall_mem_cons.mpr ⟨lw_p53, List.forall_mem_cons.mpr ⟨lw_p54, List.forall_mem_cons.mpr ⟨lw_p55, List.forall_mem_cons.mpr ⟨lw_p56, List.forall_mem_cons.mpr ⟨lw_p57, List.forall_mem_cons.mpr ⟨lw_p58, List.forall_mem_cons.mpr ⟨lw_p59, List.forall_mem_cons.mpr ⟨lw_p60, List.forall_mem_cons.mpr ⟨lw_p61, List.forall_mem_cons.mpr ⟨lw_p62, List.forall_mem_cons.mpr ⟨lw_p63, fun _ h => absurd h List.not_mem_nil⟩⟩⟩⟩⟩⟩⟩⟩⟩⟩⟩⟩⟩⟩⟩⟩
theorem lw_p64 : lw_okq (⟨"LeasePairModel", "contact", "()Z"⟩, 24) := ⟨⟨by decide +kernel, by decide +kernel⟩, List.mem_of_getElem? (i := 559) (by decide +kernel), List.mem_of_getElem? (i := 648) (by decide +kernel), List.mem_of_getElem? (i := 649) (by decide +kernel)⟩
theorem lw_p65 : lw_okq (⟨"LeasePairModel", "arrives", "()V"⟩, 24) := ⟨⟨by decide +kernel, by decide +kernel⟩, List.mem_of_getElem? (i := 559) (by decide +kernel), List.mem_of_getElem? (i := 652) (by decide +kernel), List.mem_of_getElem? (i := 653) (by decide +kernel)⟩
theorem lw_p66 : lw_okq (⟨"LeasePairModel", "told", "(I)V"⟩, 24) := ⟨⟨by decide +kernel, by decide +kernel⟩, List.mem_of_getElem? (i := 559) (by decide +kernel), List.mem_of_getElem? (i := 656) (by decide +kernel), List.mem_of_getElem? (i := 657) (by decide +kernel)⟩
theorem lw_p67 : lw_okq (⟨"LeasePairModel", "recovers", "(II)V"⟩, 24) := ⟨⟨by decide +kernel, by decide +kernel⟩, List.mem_of_getElem? (i := 559) (by decide +kernel), List.mem_of_getElem? (i := 660) (by decide +kernel), List.mem_of_getElem? (i := 661) (by decide +kernel)⟩
theorem lw_p68 : lw_okq (⟨"LeasePairModel", "runs", "(I)Z"⟩, 24) := ⟨⟨by decide +kernel, by decide +kernel⟩, List.mem_of_getElem? (i := 559) (by decide +kernel), List.mem_of_getElem? (i := 664) (by decide +kernel), List.mem_of_getElem? (i := 665) (by decide +kernel)⟩
theorem lw_p69 : lw_okq (⟨"LeasePairModel", "becomes", "(I)V"⟩, 24) := ⟨⟨by decide +kernel, by decide +kernel⟩, List.mem_of_getElem? (i := 559) (by decide +kernel), List.mem_of_getElem? (i := 668) (by decide +kernel), List.mem_of_getElem? (i := 669) (by decide +kernel)⟩
theorem lw_p70 : lw_okq (⟨"LeasePairModel", "free", "(I)V"⟩, 24) := ⟨⟨by decide +kernel, by decide +kernel⟩, List.mem_of_getElem? (i := 559) (by decide +kernel), List.mem_of_getElem? (i := 672) (by decide +kernel), List.mem_of_getElem? (i := 673) (by decide +kernel)⟩
theorem lw_p71 : lw_okq (⟨"LeasePairModel", "acknowledge", "(I)V"⟩, 24) := ⟨⟨by decide +kernel, by decide +kernel⟩, List.mem_of_getElem? (i := 559) (by decide +kernel), List.mem_of_getElem? (i := 679) (by decide +kernel), List.mem_of_getElem? (i := 680) (by decide +kernel)⟩
theorem lw_p72 : lw_okq (⟨"LeasePairModel", "begin", "(IIIII)V"⟩, 24) := ⟨⟨by decide +kernel, by decide +kernel⟩, List.mem_of_getElem? (i := 559) (by decide +kernel), List.mem_of_getElem? (i := 683) (by decide +kernel), List.mem_of_getElem? (i := 684) (by decide +kernel)⟩
theorem lw_p73 : lw_okq (⟨"LeasePairModel", "post", "()V"⟩, 24) := ⟨⟨by decide +kernel, by decide +kernel⟩, List.mem_of_getElem? (i := 559) (by decide +kernel), List.mem_of_getElem? (i := 687) (by decide +kernel), List.mem_of_getElem? (i := 688) (by decide +kernel)⟩
theorem lw_p74 : lw_okq (⟨"LeasePairModel", "takes", "(I)Z"⟩, 24) := ⟨⟨by decide +kernel, by decide +kernel⟩, List.mem_of_getElem? (i := 559) (by decide +kernel), List.mem_of_getElem? (i := 691) (by decide +kernel), List.mem_of_getElem? (i := 692) (by decide +kernel)⟩
theorem lw_p75 : lw_okq (⟨"LeasePairModel", "serves", "(I)Z"⟩, 24) := ⟨⟨by decide +kernel, by decide +kernel⟩, List.mem_of_getElem? (i := 559) (by decide +kernel), List.mem_of_getElem? (i := 695) (by decide +kernel), List.mem_of_getElem? (i := 696) (by decide +kernel)⟩
theorem lw_p76 : lw_okq (⟨"LeasePairModel", "asked", "(III)V"⟩, 24) := ⟨⟨by decide +kernel, by decide +kernel⟩, List.mem_of_getElem? (i := 559) (by decide +kernel), List.mem_of_getElem? (i := 699) (by decide +kernel), List.mem_of_getElem? (i := 700) (by decide +kernel)⟩
theorem lw_p77 : lw_okq (⟨"LeasePairModel", "choice", "(II)I"⟩, 24) := ⟨⟨by decide +kernel, by decide +kernel⟩, List.mem_of_getElem? (i := 559) (by decide +kernel), List.mem_of_getElem? (i := 703) (by decide +kernel), List.mem_of_getElem? (i := 704) (by decide +kernel)⟩
theorem lw_p78 : lw_okq (⟨"LeasePairModel", "lentAlready", "(II)I"⟩, 24) := ⟨⟨by decide +kernel, by decide +kernel⟩, List.mem_of_getElem? (i := 559) (by decide +kernel), List.mem_of_getElem? (i := 707) (by decide +kernel), List.mem_of_getElem? (i := 708) (by decide +kernel)⟩
theorem lw_p79 : lw_okq (⟨"LeasePairModel", "freeOne", "(IZ)I"⟩, 24) := ⟨⟨by decide +kernel, by decide +kernel⟩, List.mem_of_getElem? (i := 559) (by decide +kernel), List.mem_of_getElem? (i := 711) (by decide +kernel), List.mem_of_getElem? (i := 712) (by decide +kernel)⟩
def lw_privs_5 : List (MethodName × Nat) := [(⟨"LeasePairModel", "contact", "()Z"⟩, 24), (⟨"LeasePairModel", "arrives", "()V"⟩, 24), (⟨"LeasePairModel", "told", "(I)V"⟩, 24), (⟨"LeasePairModel", "recovers", "(II)V"⟩, 24), (⟨"LeasePairModel", "runs", "(I)Z"⟩, 24), (⟨"LeasePairModel", "becomes", "(I)V"⟩, 24), (⟨"LeasePairModel", "free", "(I)V"⟩, 24), (⟨"LeasePairModel", "acknowledge", "(I)V"⟩, 24), (⟨"LeasePairModel", "begin", "(IIIII)V"⟩, 24), (⟨"LeasePairModel", "post", "()V"⟩, 24), (⟨"LeasePairModel", "takes", "(I)Z"⟩, 24), (⟨"LeasePairModel", "serves", "(I)Z"⟩, 24), (⟨"LeasePairModel", "asked", "(III)V"⟩, 24), (⟨"LeasePairModel", "choice", "(II)I"⟩, 24), (⟨"LeasePairModel", "lentAlready", "(II)I"⟩, 24), (⟨"LeasePairModel", "freeOne", "(IZ)I"⟩, 24)]
theorem lw_r5 : ∀ q ∈ lw_privs_5, lw_okq q := List.forall_mem_cons.mpr ⟨lw_p64, List.forall_mem_cons.mpr ⟨lw_p65, List.forall_mem_cons.mpr ⟨lw_p66, List.forall_mem_cons.mpr ⟨lw_p67, List.forall_mem_cons.mpr ⟨lw_p68, List.forall_mem_cons.mpr ⟨lw_p69, List.forall_mem_cons.mpr ⟨lw_p70, List.forall_mem_cons.mpr ⟨lw_p71, List.forall_mem_cons.mpr ⟨lw_p72, List.forall_mem_cons.mpr ⟨lw_p73, List.forall_mem_cons.mpr ⟨lw_p74, List.forall_mem_cons.mpr ⟨lw_p75, List.forall_mem_cons.mpr ⟨lw_p76, List.forall_mem_cons.mpr ⟨lw_p77, List.forall_mem_cons.mpr ⟨lw_p78, List.forall_mem_cons.mpr ⟨lw_p79, fun _ h => absurd h List.not_mem_nil⟩⟩⟩⟩⟩⟩⟩⟩⟩⟩⟩⟩⟩⟩⟩⟩
theorem lw_p80 : lw_okq (⟨"LeasePairModel", "longOver", "(I)I"⟩, 24) := ⟨⟨by decide +kernel, by decide +kernel⟩, List.mem_of_getElem? (i := 559) (by decide +kernel), List.mem_of_getElem? (i := 715) (by decide +kernel), List.mem_of_getElem? (i := 716) (by decide +kernel)⟩
theorem lw_p81 : lw_okq (⟨"LeasePairModel", "changed", "(I)V"⟩, 24) := ⟨⟨by decide +kernel, by decide +kernel⟩, List.mem_of_getElem? (i := 559) (by decide +kernel), List.mem_of_getElem? (i := 722) (by decide +kernel), List.mem_of_getElem? (i := 723) (by decide +kernel)⟩
theorem lw_p82 : lw_okq (⟨"LeasePairModel", "over", "(I)V"⟩, 24) := ⟨⟨by decide +kernel, by decide +kernel⟩, List.mem_of_getElem? (i := 559) (by decide +kernel), List.mem_of_getElem? (i := 726) (by decide +kernel), List.mem_of_getElem? (i := 727) (by decide +kernel)⟩
theorem lw_p83 : lw_okq (⟨"LeasePairModel", "acknowledged", "(I)V"⟩, 24) := ⟨⟨by decide +kernel, by decide +kernel⟩, List.mem_of_getElem? (i := 559) (by decide +kernel), List.mem_of_getElem? (i := 730) (by decide +kernel), List.mem_of_getElem? (i := 731) (by decide +kernel)⟩
theorem lw_p84 : lw_okq (⟨"LeasePairModel", "demanded", "(I)V"⟩, 24) := ⟨⟨by decide +kernel, by decide +kernel⟩, List.mem_of_getElem? (i := 559) (by decide +kernel), List.mem_of_getElem? (i := 734) (by decide +kernel), List.mem_of_getElem? (i := 735) (by decide +kernel)⟩
theorem lw_p85 : lw_okq (⟨"LeasePairModel", "beat", "(I)V"⟩, 24) := ⟨⟨by decide +kernel, by decide +kernel⟩, List.mem_of_getElem? (i := 559) (by decide +kernel), List.mem_of_getElem? (i := 746) (by decide +kernel), List.mem_of_getElem? (i := 747) (by decide +kernel)⟩
theorem lw_p86 : lw_okq (⟨"LeasePairModel", "update", "(II)V"⟩, 24) := ⟨⟨by decide +kernel, by decide +kernel⟩, List.mem_of_getElem? (i := 559) (by decide +kernel), List.mem_of_getElem? (i := 750) (by decide +kernel), List.mem_of_getElem? (i := 751) (by decide +kernel)⟩
def lw_privs_6 : List (MethodName × Nat) := [(⟨"LeasePairModel", "longOver", "(I)I"⟩, 24), (⟨"LeasePairModel", "changed", "(I)V"⟩, 24), (⟨"LeasePairModel", "over", "(I)V"⟩, 24), (⟨"LeasePairModel", "acknowledged", "(I)V"⟩, 24), (⟨"LeasePairModel", "demanded", "(I)V"⟩, 24), (⟨"LeasePairModel", "beat", "(I)V"⟩, 24), (⟨"LeasePairModel", "update", "(II)V"⟩, 24)]
theorem lw_r6 : ∀ q ∈ lw_privs_6, lw_okq q := List.forall_mem_cons.mpr ⟨lw_p80, List.forall_mem_cons.mpr ⟨lw_p81, List.forall_mem_cons.mpr ⟨lw_p82, List.forall_mem_cons.mpr ⟨lw_p83, List.forall_mem_cons.mpr ⟨lw_p84, List.forall_mem_cons.mpr ⟨lw_p85, List.forall_mem_cons.mpr ⟨lw_p86, fun _ h => absurd h List.not_mem_nil⟩⟩⟩⟩⟩⟩⟩
def lw_privs : List (MethodName × Nat) := lw_privs_1 ++ (lw_privs_2 ++ (lw_privs_3 ++ (lw_privs_4 ++ (lw_privs_5 ++ (lw_privs_6)))))
def lw_tbl : List Cond := k2_sels lw_privs ++ tables_1
theorem lw_privs_ok : ∀ q ∈ lw_privs, lw_okq q := by
  show ∀ q ∈ lw_privs_1 ++ (lw_privs_2 ++ (lw_privs_3 ++ (lw_privs_4 ++ (lw_privs_5 ++ (lw_privs_6))))), lw_okq q
  exact List.forall_mem_append.mpr ⟨lw_r1, List.forall_mem_append.mpr ⟨lw_r2, List.forall_mem_append.mpr ⟨lw_r3, List.forall_mem_append.mpr ⟨lw_r4, List.forall_mem_append.mpr ⟨lw_r5, lw_r6⟩⟩⟩⟩⟩
-- ===== end of PART A; then your names; then what follows =====
end
section
/-! names, fields, methods, links: by program out of the Statement -/
def pz_T0 : u_T := fun k => match k with
  | 0 => ("LeasePair", "time", "I", false)
  | 1 => ("LeasePair", "linkIsUp", "Z", false)
  | 2 => ("LeasePair", "servers", "[LLeasePair$Server;", true)
  | 3 => ("LeasePair", "clients", "[LLeasePair$Client;", true)
  | _ => ("LeasePair", "list", "LLeasePair$MessageList;", true)
def pz_T1 : u_T := fun k => match k with
  | 0 => ("LeasePair$Server", "number", "I", true)
  | 1 => ("LeasePair$Server", "records", "[LLeasePair$LeaseRecord;", true)
  | 2 => ("LeasePair$Server", "state", "I", false)
  | 3 => ("LeasePair$Server", "since", "I", false)
  | 4 => ("LeasePair$Server", "session", "I", false)
  | 5 => ("LeasePair$Server", "partnerSession", "I", false)
  | _ => ("LeasePair$Server", "got", "I", false)
def pz_T2 : u_T := fun k => match k with
  | 0 => ("LeasePair$LeaseRecord", "kind", "I", false)
  | 1 => ("LeasePair$LeaseRecord", "client", "I", false)
  | 2 => ("LeasePair$LeaseRecord", "until", "I", false)
  | 3 => ("LeasePair$LeaseRecord", "acked", "I", false)
  | 4 => ("LeasePair$LeaseRecord", "known", "I", false)
  | 5 => ("LeasePair$LeaseRecord", "age", "I", false)
  | 6 => ("LeasePair$LeaseRecord", "serial", "I", false)
  | _ => ("LeasePair$LeaseRecord", "dirty", "Z", false)
def pz_T3 : u_T := fun k => match k with
  | 0 => ("LeasePair$Client", "address", "I", false)
  | 1 => ("LeasePair$Client", "until", "I", false)
  | 2 => ("LeasePair$Client", "ticket", "I", false)
  | 3 => ("LeasePair$Client", "waiting", "Z", false)
  | _ => ("LeasePair$Client", "releasedAt", "I", false)
def pz_T4 : u_T := fun k => match k with
  | 0 => ("LeasePair$MessageList", "rows", "[LLeasePair$Message;", true)
  | 1 => ("LeasePair$MessageList", "count", "I", false)
  | _ => ("LeasePair$MessageList", "taken", "LLeasePair$Message;", false)
def pz_T5 : u_T := fun k => match k with
  | 0 => ("LeasePair$Message", "kind", "I", false)
  | 1 => ("LeasePair$Message", "from", "I", false)
  | 2 => ("LeasePair$Message", "to", "I", false)
  | 3 => ("LeasePair$Message", "sentAt", "I", false)
  | 4 => ("LeasePair$Message", "ticket", "I", false)
  | 5 => ("LeasePair$Message", "address", "I", false)
  | 6 => ("LeasePair$Message", "recordKind", "I", false)
  | 7 => ("LeasePair$Message", "client", "I", false)
  | 8 => ("LeasePair$Message", "until", "I", false)
  | 9 => ("LeasePair$Message", "age", "I", false)
  | 10 => ("LeasePair$Message", "serial", "I", false)
  | 11 => ("LeasePair$Message", "potential", "I", false)
  | 12 => ("LeasePair$Message", "session", "I", false)
  | 13 => ("LeasePair$Message", "set", "I", false)
  | _ => ("LeasePair$Message", "vanishes", "Z", false)
def pz_T6 : u_T := fun k => match k with
  | 0 => ("LeasePairModel", "time", "I", false)
  | 1 => ("LeasePairModel", "up", "Z", false)
  | 2 => ("LeasePairModel", "state", "[I", true)
  | 3 => ("LeasePairModel", "since", "[I", true)
  | 4 => ("LeasePairModel", "session", "[I", true)
  | 5 => ("LeasePairModel", "knows", "[I", true)
  | 6 => ("LeasePairModel", "got", "[I", true)
  | 7 => ("LeasePairModel", "kind", "[I", true)
  | 8 => ("LeasePairModel", "lentTo", "[I", true)
  | 9 => ("LeasePairModel", "until", "[I", true)
  | 10 => ("LeasePairModel", "acked", "[I", true)
  | 11 => ("LeasePairModel", "known", "[I", true)
  | 12 => ("LeasePairModel", "age", "[I", true)
  | 13 => ("LeasePairModel", "serial", "[I", true)
  | 14 => ("LeasePairModel", "dirty", "[Z", true)
  | 15 => ("LeasePairModel", "holds", "[I", true)
  | 16 => ("LeasePairModel", "holdsTo", "[I", true)
  | 17 => ("LeasePairModel", "ticket", "[I", true)
  | 18 => ("LeasePairModel", "waits", "[Z", true)
  | 19 => ("LeasePairModel", "released", "[I", true)
  | 20 => ("LeasePairModel", "count", "I", false)
  | 21 => ("LeasePairModel", "mail", "[I", true)
  | 22 => ("LeasePairModel", "now", "[I", true)
  | _ => ("LeasePairModel", "next", "[I", true)
def pz_Y0 : Nat → FieldType := fun k => match k with
  | 0 => .int
  | 1 => .boolean
  | 2 => .array (.object "LeasePair$Server")
  | 3 => .array (.object "LeasePair$Client")
  | _ => .object "LeasePair$MessageList"
def pz_Y1 : Nat → FieldType := fun k => match k with
  | 0 => .int
  | 1 => .array (.object "LeasePair$LeaseRecord")
  | 2 => .int
  | 3 => .int
  | 4 => .int
  | 5 => .int
  | _ => .int
def pz_Y2 : Nat → FieldType := fun k => match k with
  | 0 => .int
  | 1 => .int
  | 2 => .int
  | 3 => .int
  | 4 => .int
  | 5 => .int
  | 6 => .int
  | _ => .boolean
def pz_Y3 : Nat → FieldType := fun k => match k with
  | 0 => .int
  | 1 => .int
  | 2 => .int
  | 3 => .boolean
  | _ => .int
def pz_Y4 : Nat → FieldType := fun k => match k with
  | 0 => .array (.object "LeasePair$Message")
  | 1 => .int
  | _ => .object "LeasePair$Message"
def pz_Y5 : Nat → FieldType := fun k => match k with
  | 0 => .int
  | 1 => .int
  | 2 => .int
  | 3 => .int
  | 4 => .int
  | 5 => .int
  | 6 => .int
  | 7 => .int
  | 8 => .int
  | 9 => .int
  | 10 => .int
  | 11 => .int
  | 12 => .int
  | 13 => .int
  | _ => .boolean
def pz_Y6 : Nat → FieldType := fun k => match k with
  | 0 => .int
  | 1 => .boolean
  | 2 => .array .int
  | 3 => .array .int
  | 4 => .array .int
  | 5 => .array .int
  | 6 => .array .int
  | 7 => .array .int
  | 8 => .array .int
  | 9 => .array .int
  | 10 => .array .int
  | 11 => .array .int
  | 12 => .array .int
  | 13 => .array .int
  | 14 => .array .boolean
  | 15 => .array .int
  | 16 => .array .int
  | 17 => .array .int
  | 18 => .array .boolean
  | 19 => .array .int
  | 20 => .int
  | 21 => .array .int
  | 22 => .array .int
  | _ => .array .int
def pz_cs : List vw_C := [("LeasePair", pz_T0, 5), ("LeasePair$Server", pz_T1, 7), ("LeasePair$LeaseRecord", pz_T2, 8), ("LeasePair$Client", pz_T3, 5), ("LeasePair$MessageList", pz_T4, 3), ("LeasePair$Message", pz_T5, 15), ("LeasePairModel", pz_T6, 24)]
/-- a field's type, and may it be written (no final one) -/
def pz_fty (ci : Nat) : Nat → FieldType := match ci with
  | 0 => pz_Y0
  | 1 => pz_Y1
  | 2 => pz_Y2
  | 3 => pz_Y3
  | 4 => pz_Y4
  | 5 => pz_Y5
  | _ => pz_Y6
def pz_wr (ci j : Nat) : Bool := match pz_cs[ci]? with
  | some q => !(q.2.1 j).2.2.2
  | none => false
def pz_on (kc : Nat) : String := ["LeasePair", "LeasePair$Server", "LeasePair$LeaseRecord", "LeasePair$Client", "LeasePair$MessageList", "LeasePair$Message", "LeasePairModel"].getD kc ""
def pz_mt : List (MethodName × ByteArray × Nat × Option FieldType × Nat × List Bool × Bool) := [
  (⟨"LeasePair", "<init>", "()V"⟩, prog_1_method_1_code, 2, none, 0, [], true),
  (⟨"LeasePair", "tick", "()I"⟩, prog_1_method_2_code, 2, (some .int), 0, [], true),
  (⟨"LeasePair", "ask", "(II)Z"⟩, prog_1_method_3_code, 4, (some .boolean), 0, [true, true], true),
  (⟨"LeasePair", "release", "(II)Z"⟩, prog_1_method_4_code, 5, (some .boolean), 0, [true, true], true),
  (⟨"LeasePair", "deliver", "(I)Z"⟩, prog_1_method_5_code, 3, (some .boolean), 0, [true], true),
  (⟨"LeasePair", "lose", "(I)Z"⟩, prog_1_method_6_code, 2, (some .boolean), 0, [true], true),
  (⟨"LeasePair", "stop", "(I)Z"⟩, prog_1_method_7_code, 2, (some .boolean), 0, [true], true),
  (⟨"LeasePair", "start", "(I)Z"⟩, prog_1_method_8_code, 2, (some .boolean), 0, [true], true),
  (⟨"LeasePair", "alone", "(I)Z"⟩, prog_1_method_9_code, 3, (some .boolean), 0, [true], true),
  (⟨"LeasePair", "link", "(Z)Z"⟩, prog_1_method_10_code, 2, (some .boolean), 0, [true], true),
  (⟨"LeasePair", "state", "(I)I"⟩, prog_1_method_11_code, 2, (some .int), 0, [true], true),
  (⟨"LeasePair", "entry", "(III)I"⟩, prog_1_method_12_code, 4, (some .int), 0, [true, true, true], true),
  (⟨"LeasePair", "client", "(II)I"⟩, prog_1_method_13_code, 3, (some .int), 0, [true, true], true),
  (⟨"LeasePair", "messages", "()I"⟩, prog_1_method_14_code, 1, (some .int), 0, [], true),
  (⟨"LeasePair", "message", "(II)I"⟩, prog_1_method_15_code, 3, (some .int), 0, [true, true], true),
  (⟨"LeasePair", "isServer", "(I)Z"⟩, prog_1_method_16_code, 1, (some .boolean), 0, [true], false),
  (⟨"LeasePair", "isClient", "(I)Z"⟩, prog_1_method_17_code, 1, (some .boolean), 0, [true], false),
  (⟨"LeasePair", "isDownOrRecovering", "(LLeasePair$Server;)Z"⟩, prog_1_method_18_code, 1, (some .boolean), 0, [false], false),
  (⟨"LeasePair", "partnerOf", "(LLeasePair$Server;)LLeasePair$Server;"⟩, prog_1_method_19_code, 2, (some (.object "LeasePair$Server")), 0, [false], true),
  (⟨"LeasePair", "hasContact", "()Z"⟩, prog_1_method_20_code, 1, (some .boolean), 0, [], true),
  (⟨"LeasePair", "tickServer", "(LLeasePair$Server;)V"⟩, prog_1_method_21_code, 2, none, 0, [false], true),
  (⟨"LeasePair", "tellPartner", "(LLeasePair$Server;)V"⟩, prog_1_method_22_code, 2, none, 0, [false], true),
  (⟨"LeasePair", "sendUpdates", "(LLeasePair$Server;)V"⟩, prog_1_method_23_code, 4, none, 0, [false], true),
  (⟨"LeasePair", "sendUpdate", "(LLeasePair$Server;I)V"⟩, prog_1_method_24_code, 5, none, 0, [false, true], true),
  (⟨"LeasePair", "sendDemand", "(LLeasePair$Server;)V"⟩, prog_1_method_25_code, 3, none, 0, [false], true),
  (⟨"LeasePair", "sendWithTicket", "(IIII)V"⟩, prog_1_method_26_code, 6, none, 0, [true, true, true, true], true),
  (⟨"LeasePair", "sendLease", "(LLeasePair$Message;II)V"⟩, prog_1_method_27_code, 5, none, 0, [false, true, true], true),
  (⟨"LeasePair", "acknowledge", "(LLeasePair$Message;)V"⟩, prog_1_method_28_code, 3, none, 0, [false], true),
  (⟨"LeasePair", "canArrive", "(LLeasePair$Message;)Z"⟩, prog_1_method_29_code, 2, (some .boolean), 0, [false], true),
  (⟨"LeasePair", "arrive", "(LLeasePair$Message;)V"⟩, prog_1_method_30_code, 2, none, 0, [false], true),
  (⟨"LeasePair", "arriveAsk", "(LLeasePair$Message;)V"⟩, prog_1_method_31_code, 5, none, 0, [false], true),
  (⟨"LeasePair", "arriveRelease", "(LLeasePair$Message;)V"⟩, prog_1_method_32_code, 4, none, 0, [false], true),
  (⟨"LeasePair", "arriveUpdate", "(LLeasePair$Message;)V"⟩, prog_1_method_33_code, 2, none, 0, [false], true),
  (⟨"LeasePair", "arriveAcknowledgement", "(LLeasePair$Message;)V"⟩, prog_1_method_34_code, 3, none, 0, [false], true),
  (⟨"LeasePair", "arriveDemand", "(LLeasePair$Message;)V"⟩, prog_1_method_35_code, 3, none, 0, [false], true),
  (⟨"LeasePair$Server", "<init>", "(I)V"⟩, prog_6_method_1_code, 3, none, 1, [true], true),
  (⟨"LeasePair$Server", "serves", "()Z"⟩, prog_6_method_2_code, 1, (some .boolean), 1, [], true),
  (⟨"LeasePair$Server", "hasGot", "(I)Z"⟩, prog_6_method_3_code, 2, (some .boolean), 1, [true], true),
  (⟨"LeasePair$Server", "isPastLead", "(I)Z"⟩, prog_6_method_4_code, 2, (some .boolean), 1, [true], true),
  (⟨"LeasePair$Server", "beginRecovery", "(I)V"⟩, prog_6_method_5_code, 2, none, 1, [true], true),
  (⟨"LeasePair$Server", "followContact", "(ZI)V"⟩, prog_6_method_6_code, 3, none, 1, [true, true], true),
  (⟨"LeasePair$Server", "takeUpdate", "(LLeasePair$Message;I)Z"⟩, prog_6_method_7_code, 5, (some .boolean), 1, [false, true], true),
  (⟨"LeasePair$Server", "endExpired", "(I)V"⟩, prog_6_method_8_code, 3, none, 1, [true], true),
  (⟨"LeasePair$Server", "markDirty", "(I)V"⟩, prog_6_method_9_code, 3, none, 1, [true], true),
  (⟨"LeasePair$Server", "choose", "(II)I"⟩, prog_6_method_10_code, 4, (some .int), 1, [true, true], true),
  (⟨"LeasePair$Server", "leastLentTo", "(I)I"⟩, prog_6_method_11_code, 3, (some .int), 1, [true], true),
  (⟨"LeasePair$Server", "leastFree", "(Z)I"⟩, prog_6_method_12_code, 3, (some .int), 1, [true], true),
  (⟨"LeasePair$Server", "leastLongPast", "(I)I"⟩, prog_6_method_13_code, 3, (some .int), 1, [true], true),
  (⟨"LeasePair$LeaseRecord", "<init>", "()V"⟩, prog_3_method_1_code, 1, none, 2, [], true),
  (⟨"LeasePair$LeaseRecord", "runs", "(I)Z"⟩, prog_3_method_2_code, 2, (some .boolean), 2, [true], true),
  (⟨"LeasePair$LeaseRecord", "isLentTo", "(I)Z"⟩, prog_3_method_3_code, 2, (some .boolean), 2, [true], true),
  (⟨"LeasePair$LeaseRecord", "isLongPast", "(I)Z"⟩, prog_3_method_4_code, 2, (some .boolean), 2, [true], true),
  (⟨"LeasePair$LeaseRecord", "change", "()V"⟩, prog_3_method_5_code, 1, none, 2, [], true),
  (⟨"LeasePair$LeaseRecord", "end", "()V"⟩, prog_3_method_6_code, 1, none, 2, [], true),
  (⟨"LeasePair$LeaseRecord", "lend", "(IIZ)V"⟩, prog_3_method_7_code, 5, none, 2, [true, true, true], true),
  (⟨"LeasePair$LeaseRecord", "clear", "()V"⟩, prog_3_method_8_code, 1, none, 2, [], true),
  (⟨"LeasePair$LeaseRecord", "becomeFree", "(LLeasePair$Message;)V"⟩, prog_3_method_9_code, 2, none, 2, [false], true),
  (⟨"LeasePair$LeaseRecord", "becomeLent", "(LLeasePair$Message;)V"⟩, prog_3_method_10_code, 2, none, 2, [false], true),
  (⟨"LeasePair$LeaseRecord", "recover", "(LLeasePair$Message;I)Z"⟩, prog_3_method_11_code, 5, (some .boolean), 2, [false, true], true),
  (⟨"LeasePair$LeaseRecord", "isSameLease", "(LLeasePair$Message;)Z"⟩, prog_3_method_12_code, 2, (some .boolean), 2, [false], true),
  (⟨"LeasePair$LeaseRecord", "takeUpdate", "(LLeasePair$Message;I)Z"⟩, prog_3_method_13_code, 4, (some .boolean), 2, [false, true], true),
  (⟨"LeasePair$LeaseRecord", "takeLent", "(LLeasePair$Message;I)Z"⟩, prog_3_method_14_code, 3, (some .boolean), 2, [false, true], true),
  (⟨"LeasePair$LeaseRecord", "takeAcknowledgement", "(LLeasePair$Message;)V"⟩, prog_3_method_15_code, 2, none, 2, [false], true),
  (⟨"LeasePair$LeaseRecord", "look", "(I)I"⟩, prog_3_method_16_code, 2, (some .int), 2, [true], true),
  (⟨"LeasePair$Client", "<init>", "()V"⟩, prog_2_method_1_code, 1, none, 3, [], true),
  (⟨"LeasePair$Client", "pauses", "(I)Z"⟩, prog_2_method_2_code, 2, (some .boolean), 3, [true], true),
  (⟨"LeasePair$Client", "holdNone", "()V"⟩, prog_2_method_3_code, 1, none, 3, [], true),
  (⟨"LeasePair$Client", "dropExpired", "(I)V"⟩, prog_2_method_4_code, 2, none, 3, [true], true),
  (⟨"LeasePair$Client", "waitsFor", "(LLeasePair$Message;)Z"⟩, prog_2_method_5_code, 2, (some .boolean), 3, [false], true),
  (⟨"LeasePair$Client", "takeLease", "(LLeasePair$Message;I)V"⟩, prog_2_method_6_code, 3, none, 3, [false, true], true),
  (⟨"LeasePair$Client", "takeDenial", "(LLeasePair$Message;)V"⟩, prog_2_method_7_code, 2, none, 3, [false], true),
  (⟨"LeasePair$Client", "look", "(I)I"⟩, prog_2_method_8_code, 2, (some .int), 3, [true], true),
  (⟨"LeasePair$MessageList", "<init>", "()V"⟩, prog_5_method_1_code, 2, none, 4, [], true),
  (⟨"LeasePair$MessageList", "has", "(I)Z"⟩, prog_5_method_2_code, 2, (some .boolean), 4, [true], true),
  (⟨"LeasePair$MessageList", "append", "(IIII)LLeasePair$Message;"⟩, prog_5_method_3_code, 6, (some (.object "LeasePair$Message")), 4, [true, true, true, true], true),
  (⟨"LeasePair$MessageList", "take", "(I)LLeasePair$Message;"⟩, prog_5_method_4_code, 4, (some (.object "LeasePair$Message")), 4, [true], true),
  (⟨"LeasePair$MessageList", "removeSentBefore", "(I)V"⟩, prog_5_method_5_code, 3, none, 4, [true], true),
  (⟨"LeasePair$MessageList", "removeBetweenServers", "()V"⟩, prog_5_method_6_code, 2, none, 4, [], true),
  (⟨"LeasePair$MessageList", "removeVanishing", "()V"⟩, prog_5_method_7_code, 3, none, 4, [], true),
  (⟨"LeasePair$MessageList", "swap", "(II)V"⟩, prog_5_method_8_code, 4, none, 4, [true, true], true),
  (⟨"LeasePair$Message", "<init>", "()V"⟩, prog_4_method_1_code, 1, none, 5, [], true),
  (⟨"LeasePair$Message", "isBetweenServers", "()Z"⟩, prog_4_method_2_code, 1, (some .boolean), 5, [], true),
  (⟨"LeasePair$Message", "goesToServer", "()Z"⟩, prog_4_method_3_code, 1, (some .boolean), 5, [], true),
  (⟨"LeasePair$Message", "look", "(I)I"⟩, prog_4_method_4_code, 2, (some .int), 5, [true], true),
  (⟨"LeasePair$Message", "subject", "()I"⟩, prog_4_method_5_code, 1, (some .int), 5, [], true),
  (⟨"LeasePair$Message", "detail", "()I"⟩, prog_4_method_6_code, 1, (some .int), 5, [], true),
  (⟨"LeasePairModel", "<init>", "()V"⟩, prog_8_method_1_code, 1, none, 6, [], true),
  (⟨"LeasePairModel", "isServer", "(I)Z"⟩, prog_8_method_2_code, 1, (some .boolean), 6, [true], false),
  (⟨"LeasePairModel", "isClient", "(I)Z"⟩, prog_8_method_3_code, 1, (some .boolean), 6, [true], false),
  (⟨"LeasePairModel", "serves", "(I)Z"⟩, prog_8_method_4_code, 2, (some .boolean), 6, [true], true),
  (⟨"LeasePairModel", "contact", "()Z"⟩, prog_8_method_5_code, 1, (some .boolean), 6, [], true),
  (⟨"LeasePairModel", "runs", "(I)Z"⟩, prog_8_method_6_code, 2, (some .boolean), 6, [true], true),
  (⟨"LeasePairModel", "most", "(II)I"⟩, prog_8_method_7_code, 2, (some .int), 6, [true, true], false),
  (⟨"LeasePairModel", "least", "(II)I"⟩, prog_8_method_8_code, 2, (some .int), 6, [true, true], false),
  (⟨"LeasePairModel", "begin", "(IIIII)V"⟩, prog_8_method_9_code, 7, none, 6, [true, true, true, true, true], true),
  (⟨"LeasePairModel", "post", "()V"⟩, prog_8_method_10_code, 2, none, 6, [], true),
  (⟨"LeasePairModel", "out", "(I)V"⟩, prog_8_method_11_code, 3, none, 6, [true], true),
  (⟨"LeasePairModel", "changed", "(I)V"⟩, prog_8_method_12_code, 2, none, 6, [true], true),
  (⟨"LeasePairModel", "free", "(I)V"⟩, prog_8_method_13_code, 2, none, 6, [true], true),
  (⟨"LeasePairModel", "lentAlready", "(II)I"⟩, prog_8_method_14_code, 4, (some .int), 6, [true, true], true),
  (⟨"LeasePairModel", "freeOne", "(IZ)I"⟩, prog_8_method_15_code, 4, (some .int), 6, [true, true], true),
  (⟨"LeasePairModel", "longOver", "(I)I"⟩, prog_8_method_16_code, 3, (some .int), 6, [true], true),
  (⟨"LeasePairModel", "choice", "(II)I"⟩, prog_8_method_17_code, 5, (some .int), 6, [true, true], true),
  (⟨"LeasePairModel", "asked", "(III)V"⟩, prog_8_method_18_code, 7, none, 6, [true, true, true], true),
  (⟨"LeasePairModel", "over", "(I)V"⟩, prog_8_method_19_code, 2, none, 6, [true], true),
  (⟨"LeasePairModel", "update", "(II)V"⟩, prog_8_method_20_code, 4, none, 6, [true, true], true),
  (⟨"LeasePairModel", "acknowledge", "(I)V"⟩, prog_8_method_21_code, 2, none, 6, [true], true),
  (⟨"LeasePairModel", "becomes", "(I)V"⟩, prog_8_method_22_code, 2, none, 6, [true], true),
  (⟨"LeasePairModel", "recovers", "(II)V"⟩, prog_8_method_23_code, 6, none, 6, [true, true], true),
  (⟨"LeasePairModel", "takes", "(I)Z"⟩, prog_8_method_24_code, 2, (some .boolean), 6, [true], true),
  (⟨"LeasePairModel", "told", "(I)V"⟩, prog_8_method_25_code, 3, none, 6, [true], true),
  (⟨"LeasePairModel", "acknowledged", "(I)V"⟩, prog_8_method_26_code, 3, none, 6, [true], true),
  (⟨"LeasePairModel", "demanded", "(I)V"⟩, prog_8_method_27_code, 3, none, 6, [true], true),
  (⟨"LeasePairModel", "arrives", "()V"⟩, prog_8_method_28_code, 3, none, 6, [], true),
  (⟨"LeasePairModel", "deliver", "(I)Z"⟩, prog_8_method_29_code, 3, (some .boolean), 6, [true], true),
  (⟨"LeasePairModel", "lose", "(I)Z"⟩, prog_8_method_30_code, 2, (some .boolean), 6, [true], true),
  (⟨"LeasePairModel", "beat", "(I)V"⟩, prog_8_method_31_code, 5, none, 6, [true], true),
  (⟨"LeasePairModel", "tick", "()I"⟩, prog_8_method_32_code, 2, (some .int), 6, [], true),
  (⟨"LeasePairModel", "ask", "(II)Z"⟩, prog_8_method_33_code, 3, (some .boolean), 6, [true, true], true),
  (⟨"LeasePairModel", "release", "(II)Z"⟩, prog_8_method_34_code, 3, (some .boolean), 6, [true, true], true),
  (⟨"LeasePairModel", "stop", "(I)Z"⟩, prog_8_method_35_code, 3, (some .boolean), 6, [true], true),
  (⟨"LeasePairModel", "start", "(I)Z"⟩, prog_8_method_36_code, 2, (some .boolean), 6, [true], true),
  (⟨"LeasePairModel", "alone", "(I)Z"⟩, prog_8_method_37_code, 2, (some .boolean), 6, [true], true),
  (⟨"LeasePairModel", "link", "(Z)Z"⟩, prog_8_method_38_code, 2, (some .boolean), 6, [true], true),
  (⟨"LeasePairModel", "state", "(I)I"⟩, prog_8_method_39_code, 2, (some .int), 6, [true], true),
  (⟨"LeasePairModel", "entry", "(III)I"⟩, prog_8_method_40_code, 5, (some .int), 6, [true, true, true], true),
  (⟨"LeasePairModel", "client", "(II)I"⟩, prog_8_method_41_code, 3, (some .int), 6, [true, true], true),
  (⟨"LeasePairModel", "messages", "()I"⟩, prog_8_method_42_code, 1, (some .int), 6, [], true),
  (⟨"LeasePairModel", "message", "(II)I"⟩, prog_8_method_43_code, 3, (some .int), 6, [true, true], true)]
def pz_m0 : MethodName × ByteArray × Nat × Option FieldType × Nat × List Bool × Bool := (⟨"", "", ""⟩, ⟨#[]⟩, 0, none, 0, [], false)
def pz_y (k : Nat) : MethodName := (pz_mt.getD k pz_m0).1
def pz_b (k : Nat) : ByteArray := (pz_mt.getD k pz_m0).2.1
def pz_n (k : Nat) : Nat := (pz_mt.getD k pz_m0).2.2.1
def pz_ret (k : Nat) : Option FieldType := (pz_mt.getD k pz_m0).2.2.2.1
def pz_kc (k : Nat) : Nat := (pz_mt.getD k pz_m0).2.2.2.2.1
def pz_ko (k : Nat) : Nat := (pz_mt.getD k pz_m0).2.2.2.2.1
def pz_pt (k : Nat) : List Bool := (pz_mt.getD k pz_m0).2.2.2.2.2.1
def pz_vi (k : Nat) : Bool := (pz_mt.getD k pz_m0).2.2.2.2.2.2
def pz_ty (dA : Nat → ClassId) : List (ClassId × FieldType) := [(dA 0, .int), (dA 1, .boolean), (dA 2, .object "LeasePair$Server"), (dA 3, .object "LeasePair$Client"), (dA 4, .object "LeasePair$LeaseRecord"), (dA 5, .object "LeasePair$Message")]
/-- which array type holds objects of that number -/
def pz_ct (ci : Nat) : Nat := match ci with
  | 1 => 2
  | 3 => 3
  | 2 => 4
  | 5 => 5
  | _ => 9
def pz_ne (w : Jvm.Cond) : Bool := match w with
  | .fieldLinkNest .. => true
  | .methodLinkNest .. => true
  | _ => false
def pz_ws : List Jvm.Cond := lw_tbl.filter goodWord
def pz_nw : List Jvm.Cond := lw_tbl.filter pz_ne
theorem pz_ws_good : ∀ w ∈ pz_ws, (w.onTables && w.keeps) = true ∨ ∃ ty, w = .arrayClass ty := fun w h => good_of_word (List.mem_filter.mp h).2
theorem pz_at {w : Jvm.Cond} (i : Nat) (h : lw_tbl[i]? = some w) (hg : goodWord w = true) : w ∈ pz_ws := List.mem_filter.mpr ⟨List.mem_of_getElem? h, hg⟩
theorem pz_atn {w : Jvm.Cond} (i : Nat) (h : lw_tbl[i]? = some w) (hg : pz_ne w = true) : w ∈ pz_nw := List.mem_filter.mpr ⟨List.mem_of_getElem? h, hg⟩
theorem pz_nw_tab : ∀ w ∈ pz_nw, w.onTables = true := by
  intro w h
  have h2 := (List.mem_filter.mp h).2
  unfold pz_ne at h2
  split at h2
  · rfl
  · rfl
  · cases h2
theorem pz_nw_warm {s U : State} (hW : s.WarmedH U.vm) : ∀ w ∈ pz_nw, va_Nw w s → va_Nw w U := by
  intro w h hz
  have h2 := (List.mem_filter.mp h).2
  unfold pz_ne at h2
  split at h2
  · exact hz.warmF hW
  · exact hz.warmM hW
  · cases h2
def pz_flds : List (Nat × Nat × Nat × Nat × Nat) := [(0, 7, 0, 0, 301), (0, 13, 0, 1, 302), (0, 19, 0, 2, 303), (0, 28, 0, 3, 304), (0, 36, 0, 4, 305), (0, 46, 1, 2, 157), (0, 63, 3, 2, 190), (0, 66, 3, 3, 192), (0, 73, 3, 0, 188), (0, 80, 5, 5, 234), (0, 86, 3, 4, 195), (0, 118, 1, 3, 159), (0, 121, 1, 1, 155), (0, 132, 4, 1, 292), (0, 135, 4, 0, 290), (0, 140, 1, 0, 153), (0, 163, 1, 6, 164), (0, 169, 2, 7, 134), (0, 176, 2, 0, 120), (0, 179, 5, 6, 240), (0, 182, 2, 1, 122), (0, 185, 5, 7, 242), (0, 186, 2, 2, 125), (0, 189, 5, 8, 245), (0, 190, 2, 5, 129), (0, 193, 5, 9, 247), (0, 194, 2, 6, 131), (0, 197, 5, 10, 250), (0, 198, 5, 11, 252), (0, 201, 1, 5, 162), (0, 204, 5, 12, 254), (0, 207, 5, 13, 256), (0, 210, 1, 4, 161), (0, 211, 5, 4, 233), (0, 212, 5, 2, 228), (0, 215, 5, 1, 225), (0, 224, 5, 0, 222), (1, 9, 1, 0, 152), (1, 15, 1, 2, 156), (1, 20, 1, 1, 154), (1, 25, 1, 6, 163), (1, 28, 1, 3, 158), (1, 31, 1, 4, 160), (1, 38, 5, 5, 237), (1, 47, 5, 12, 253), (1, 54, 2, 0, 119), (1, 57, 2, 2, 124), (1, 63, 2, 7, 133), (2, 9, 2, 0, 118), (2, 15, 2, 1, 121), (2, 18, 2, 2, 123), (2, 21, 2, 4, 127), (2, 24, 2, 6, 130), (2, 27, 2, 7, 132), (2, 38, 2, 5, 128), (2, 41, 2, 3, 126), (2, 56, 5, 9, 246), (2, 59, 5, 7, 241), (2, 60, 5, 8, 244), (2, 61, 5, 11, 251), (2, 71, 5, 6, 239), (2, 85, 5, 10, 249), (3, 9, 3, 0, 187), (3, 15, 3, 4, 194), (3, 18, 3, 1, 189), (3, 24, 3, 3, 193), (3, 28, 5, 4, 231), (3, 33, 3, 2, 191), (3, 38, 5, 8, 243), (3, 39, 5, 5, 236), (4, 11, 4, 0, 289), (4, 18, 4, 2, 293), (4, 22, 4, 1, 291), (4, 26, 5, 0, 221), (4, 29, 5, 1, 223), (4, 32, 5, 2, 226), (4, 35, 5, 3, 229), (4, 38, 5, 14, 257), (5, 9, 5, 0, 220), (5, 15, 5, 1, 224), (5, 18, 5, 2, 227), (5, 28, 5, 3, 230), (5, 31, 5, 5, 235), (5, 34, 5, 13, 255), (5, 37, 5, 4, 232), (5, 40, 5, 6, 238), (5, 43, 5, 10, 248), (6, 7, 6, 1, 652), (6, 13, 6, 2, 653), (6, 17, 6, 3, 654), (6, 20, 6, 4, 655), (6, 23, 6, 5, 656), (6, 26, 6, 6, 657), (6, 29, 6, 7, 658), (6, 32, 6, 8, 659), (6, 35, 6, 9, 660), (6, 38, 6, 10, 661), (6, 41, 6, 11, 662), (6, 44, 6, 12, 663), (6, 47, 6, 13, 664), (6, 50, 6, 14, 665), (6, 54, 6, 15, 666), (6, 57, 6, 16, 667), (6, 60, 6, 17, 668), (6, 63, 6, 18, 669), (6, 66, 6, 19, 670), (6, 69, 6, 21, 672), (6, 72, 6, 22, 673), (6, 75, 6, 23, 674), (6, 78, 6, 0, 651), (6, 82, 6, 20, 671)]
def pz_fld (kc idx : Nat) : Option (Nat × Nat) := (pz_flds.find? (fun e => e.1 == kc && e.2.1 == idx)).map (fun e => (e.2.2.1, e.2.2.2.1))
def pz_fck (e : Nat × Nat × Nat × Nat × Nat) : Bool := match pz_cs[e.2.2.1]? with
  | some q => decide (e.2.2.2.1 < q.2.2) && decide ((q.2.1 e.2.2.2.1).1 = q.1) && (decide (lw_tbl[e.2.2.2.2]? = some (.fieldLink (pz_on e.1) e.2.1 q.1 (q.2.1 e.2.2.2.1).2.1 (q.2.1 e.2.2.2.1).2.2.1)) || decide (lw_tbl[e.2.2.2.2]? = some (.fieldLinkNest (pz_on e.1) e.2.1 q.1 (q.2.1 e.2.2.2.1).2.1 (q.2.1 e.2.2.2.1).2.2.1 "LeasePair")))
  | none => false
set_option maxRecDepth 100000 in
theorem pz_fck_all : pz_flds.all pz_fck = true := by decide +kernel
set_option maxRecDepth 100000 in
theorem pz_us0 : u_ws "LeasePair" pz_T0 5 = ([306, 308, 310, 312, 314] : List Nat).filterMap (fun i => lw_tbl[i]?) := by decide +kernel
set_option maxRecDepth 100000 in
theorem pz_ug0 : (u_ws "LeasePair" pz_T0 5).all goodWord = true := by decide +kernel
theorem pz_uin0 : ∀ w ∈ u_ws "LeasePair" pz_T0 5, w ∈ pz_ws := fun w h => List.mem_filter.mpr ⟨by
  rw [pz_us0] at h
  obtain ⟨i, -, hi⟩ := List.mem_filterMap.mp h
  exact List.mem_of_getElem? hi, List.all_eq_true.mp pz_ug0 w h⟩
theorem pz_nm0 : ∀ a, a < 5 → ∀ b, b < 5 → a ≠ b → (pz_T0 a).2.1 ≠ (pz_T0 b).2.1 := by decide +kernel
theorem pz_yk0 : ∀ k, k < 5 → parseFieldDescriptor (pz_T0 k).2.2.1 = some (pz_Y0 k) := by decide +kernel
set_option maxRecDepth 100000 in
theorem pz_us1 : u_ws "LeasePair$Server" pz_T1 7 = ([165, 167, 169, 171, 173, 175, 177] : List Nat).filterMap (fun i => lw_tbl[i]?) := by decide +kernel
set_option maxRecDepth 100000 in
theorem pz_ug1 : (u_ws "LeasePair$Server" pz_T1 7).all goodWord = true := by decide +kernel
theorem pz_uin1 : ∀ w ∈ u_ws "LeasePair$Server" pz_T1 7, w ∈ pz_ws := fun w h => List.mem_filter.mpr ⟨by
  rw [pz_us1] at h
  obtain ⟨i, -, hi⟩ := List.mem_filterMap.mp h
  exact List.mem_of_getElem? hi, List.all_eq_true.mp pz_ug1 w h⟩
theorem pz_nm1 : ∀ a, a < 7 → ∀ b, b < 7 → a ≠ b → (pz_T1 a).2.1 ≠ (pz_T1 b).2.1 := by decide +kernel
theorem pz_yk1 : ∀ k, k < 7 → parseFieldDescriptor (pz_T1 k).2.2.1 = some (pz_Y1 k) := by decide +kernel
set_option maxRecDepth 100000 in
theorem pz_us2 : u_ws "LeasePair$LeaseRecord" pz_T2 8 = ([135, 137, 139, 141, 143, 145, 147, 149] : List Nat).filterMap (fun i => lw_tbl[i]?) := by decide +kernel
set_option maxRecDepth 100000 in
theorem pz_ug2 : (u_ws "LeasePair$LeaseRecord" pz_T2 8).all goodWord = true := by decide +kernel
theorem pz_uin2 : ∀ w ∈ u_ws "LeasePair$LeaseRecord" pz_T2 8, w ∈ pz_ws := fun w h => List.mem_filter.mpr ⟨by
  rw [pz_us2] at h
  obtain ⟨i, -, hi⟩ := List.mem_filterMap.mp h
  exact List.mem_of_getElem? hi, List.all_eq_true.mp pz_ug2 w h⟩
theorem pz_nm2 : ∀ a, a < 8 → ∀ b, b < 8 → a ≠ b → (pz_T2 a).2.1 ≠ (pz_T2 b).2.1 := by decide +kernel
theorem pz_yk2 : ∀ k, k < 8 → parseFieldDescriptor (pz_T2 k).2.2.1 = some (pz_Y2 k) := by decide +kernel
set_option maxRecDepth 100000 in
theorem pz_us3 : u_ws "LeasePair$Client" pz_T3 5 = ([196, 198, 200, 202, 204] : List Nat).filterMap (fun i => lw_tbl[i]?) := by decide +kernel
set_option maxRecDepth 100000 in
theorem pz_ug3 : (u_ws "LeasePair$Client" pz_T3 5).all goodWord = true := by decide +kernel
theorem pz_uin3 : ∀ w ∈ u_ws "LeasePair$Client" pz_T3 5, w ∈ pz_ws := fun w h => List.mem_filter.mpr ⟨by
  rw [pz_us3] at h
  obtain ⟨i, -, hi⟩ := List.mem_filterMap.mp h
  exact List.mem_of_getElem? hi, List.all_eq_true.mp pz_ug3 w h⟩
theorem pz_nm3 : ∀ a, a < 5 → ∀ b, b < 5 → a ≠ b → (pz_T3 a).2.1 ≠ (pz_T3 b).2.1 := by decide +kernel
theorem pz_yk3 : ∀ k, k < 5 → parseFieldDescriptor (pz_T3 k).2.2.1 = some (pz_Y3 k) := by decide +kernel
set_option maxRecDepth 100000 in
theorem pz_us4 : u_ws "LeasePair$MessageList" pz_T4 3 = ([294, 296, 298] : List Nat).filterMap (fun i => lw_tbl[i]?) := by decide +kernel
set_option maxRecDepth 100000 in
theorem pz_ug4 : (u_ws "LeasePair$MessageList" pz_T4 3).all goodWord = true := by decide +kernel
theorem pz_uin4 : ∀ w ∈ u_ws "LeasePair$MessageList" pz_T4 3, w ∈ pz_ws := fun w h => List.mem_filter.mpr ⟨by
  rw [pz_us4] at h
  obtain ⟨i, -, hi⟩ := List.mem_filterMap.mp h
  exact List.mem_of_getElem? hi, List.all_eq_true.mp pz_ug4 w h⟩
theorem pz_nm4 : ∀ a, a < 3 → ∀ b, b < 3 → a ≠ b → (pz_T4 a).2.1 ≠ (pz_T4 b).2.1 := by decide +kernel
theorem pz_yk4 : ∀ k, k < 3 → parseFieldDescriptor (pz_T4 k).2.2.1 = some (pz_Y4 k) := by decide +kernel
set_option maxRecDepth 100000 in
theorem pz_us5 : u_ws "LeasePair$Message" pz_T5 15 = ([258, 260, 262, 264, 266, 268, 270, 272, 274, 276, 278, 280, 282, 284, 286] : List Nat).filterMap (fun i => lw_tbl[i]?) := by decide +kernel
set_option maxRecDepth 100000 in
theorem pz_ug5 : (u_ws "LeasePair$Message" pz_T5 15).all goodWord = true := by decide +kernel
theorem pz_uin5 : ∀ w ∈ u_ws "LeasePair$Message" pz_T5 15, w ∈ pz_ws := fun w h => List.mem_filter.mpr ⟨by
  rw [pz_us5] at h
  obtain ⟨i, -, hi⟩ := List.mem_filterMap.mp h
  exact List.mem_of_getElem? hi, List.all_eq_true.mp pz_ug5 w h⟩
theorem pz_nm5 : ∀ a, a < 15 → ∀ b, b < 15 → a ≠ b → (pz_T5 a).2.1 ≠ (pz_T5 b).2.1 := by decide +kernel
theorem pz_yk5 : ∀ k, k < 15 → parseFieldDescriptor (pz_T5 k).2.2.1 = some (pz_Y5 k) := by decide +kernel
set_option maxRecDepth 100000 in
theorem pz_us6 : u_ws "LeasePairModel" pz_T6 24 = ([675, 677, 679, 681, 683, 685, 687, 689, 691, 693, 695, 697, 699, 701, 703, 705, 707, 709, 711, 713, 715, 717, 719, 721] : List Nat).filterMap (fun i => lw_tbl[i]?) := by decide +kernel
set_option maxRecDepth 100000 in
theorem pz_ug6 : (u_ws "LeasePairModel" pz_T6 24).all goodWord = true := by decide +kernel
theorem pz_uin6 : ∀ w ∈ u_ws "LeasePairModel" pz_T6 24, w ∈ pz_ws := fun w h => List.mem_filter.mpr ⟨by
  rw [pz_us6] at h
  obtain ⟨i, -, hi⟩ := List.mem_filterMap.mp h
  exact List.mem_of_getElem? hi, List.all_eq_true.mp pz_ug6 w h⟩
theorem pz_nm6 : ∀ a, a < 24 → ∀ b, b < 24 → a ≠ b → (pz_T6 a).2.1 ≠ (pz_T6 b).2.1 := by decide +kernel
theorem pz_yk6 : ∀ k, k < 24 → parseFieldDescriptor (pz_T6 k).2.2.1 = some (pz_Y6 k) := by decide +kernel
theorem pz_cs_at {ci : Nat} {q : vw_C} (h : pz_cs[ci]? = some q) : (ci = 0 ∧ q = ("LeasePair", pz_T0, 5)) ∨ (ci = 1 ∧ q = ("LeasePair$Server", pz_T1, 7)) ∨ (ci = 2 ∧ q = ("LeasePair$LeaseRecord", pz_T2, 8)) ∨ (ci = 3 ∧ q = ("LeasePair$Client", pz_T3, 5)) ∨ (ci = 4 ∧ q = ("LeasePair$MessageList", pz_T4, 3)) ∨ (ci = 5 ∧ q = ("LeasePair$Message", pz_T5, 15)) ∨ (ci = 6 ∧ q = ("LeasePairModel", pz_T6, 24)) := by
  match ci, h with
  | 0, h => exact Or.inl ⟨rfl, (Option.some.inj h).symm⟩
  | 1, h => exact Or.inr (Or.inl ⟨rfl, (Option.some.inj h).symm⟩)
  | 2, h => exact Or.inr (Or.inr (Or.inl ⟨rfl, (Option.some.inj h).symm⟩))
  | 3, h => exact Or.inr (Or.inr (Or.inr (Or.inl ⟨rfl, (Option.some.inj h).symm⟩)))
  | 4, h => exact Or.inr (Or.inr (Or.inr (Or.inr (Or.inl ⟨rfl, (Option.some.inj h).symm⟩))))
  | 5, h => exact Or.inr (Or.inr (Or.inr (Or.inr (Or.inr (Or.inl ⟨rfl, (Option.some.inj h).symm⟩)))))
  | 6, h => exact Or.inr (Or.inr (Or.inr (Or.inr (Or.inr (Or.inr (⟨rfl, (Option.some.inj h).symm⟩))))))
  | _ + 7, h => exact absurd h (by simp [pz_cs])
theorem pz_cs_in {ci : Nat} {C : String} {T : u_T} {N : Nat} (h : pz_cs[ci]? = some (C, T, N)) : ∀ w ∈ u_ws C T N, w ∈ pz_ws := by
  rcases pz_cs_at h with ⟨rfl, e⟩ | ⟨rfl, e⟩ | ⟨rfl, e⟩ | ⟨rfl, e⟩ | ⟨rfl, e⟩ | ⟨rfl, e⟩ | ⟨rfl, e⟩
  · cases e
    exact pz_uin0
  · cases e
    exact pz_uin1
  · cases e
    exact pz_uin2
  · cases e
    exact pz_uin3
  · cases e
    exact pz_uin4
  · cases e
    exact pz_uin5
  · cases e
    exact pz_uin6
theorem pz_cs_ok {ci : Nat} {C : String} {T : u_T} {N : Nat} (h : pz_cs[ci]? = some (C, T, N)) : (∀ k, k < N → parseFieldDescriptor (T k).2.2.1 = some (pz_fty ci k)) ∧ (∀ a, a < N → ∀ b, b < N → a ≠ b → (T a).2.1 ≠ (T b).2.1) ∧ ∀ j, j < N → (T j).2.2.2 = !(pz_wr ci j) := by
  have h9 : ∀ j, j < N → (T j).2.2.2 = !(pz_wr ci j) := by
    intro j _
    unfold pz_wr
    rw [h]
    simp
  rcases pz_cs_at h with ⟨rfl, e⟩ | ⟨rfl, e⟩ | ⟨rfl, e⟩ | ⟨rfl, e⟩ | ⟨rfl, e⟩ | ⟨rfl, e⟩ | ⟨rfl, e⟩
  · cases e
    exact ⟨pz_yk0, pz_nm0, h9⟩
  · cases e
    exact ⟨pz_yk1, pz_nm1, h9⟩
  · cases e
    exact ⟨pz_yk2, pz_nm2, h9⟩
  · cases e
    exact ⟨pz_yk3, pz_nm3, h9⟩
  · cases e
    exact ⟨pz_yk4, pz_nm4, h9⟩
  · cases e
    exact ⟨pz_yk5, pz_nm5, h9⟩
  · cases e
    exact ⟨pz_yk6, pz_nm6, h9⟩
theorem pz_fld_ok {kc idx ci j : Nat} (h : pz_fld kc idx = some (ci, j)) : ∃ C T N, pz_cs[ci]? = some (C, T, N) ∧ j < N ∧ (∀ w ∈ u_ws C T N, w ∈ pz_ws) ∧ (T j).1 = C ∧ (Jvm.Cond.fieldLink (pz_on kc) idx C (T j).2.1 (T j).2.2.1 ∈ pz_ws ∨ ∃ host, Jvm.Cond.fieldLinkNest (pz_on kc) idx C (T j).2.1 (T j).2.2.1 host ∈ pz_nw) := by
  unfold pz_fld at h
  obtain ⟨e, he, h2⟩ := Option.map_eq_some_iff.mp h
  have hm := List.mem_of_find?_eq_some he
  have hp := List.find?_some he
  obtain ⟨e1, e2, e3, e4, e5⟩ := e
  simp only [Bool.and_eq_true, beq_iff_eq] at hp
  obtain ⟨rfl, rfl⟩ := hp
  simp only [Prod.mk.injEq] at h2
  obtain ⟨rfl, rfl⟩ := h2
  have hc := List.all_eq_true.mp pz_fck_all _ hm
  unfold pz_fck at hc
  split at hc
  · rename_i q hq
    obtain ⟨C, T, N⟩ := q
    simp only [Bool.and_eq_true, Bool.or_eq_true, decide_eq_true_eq] at hc
    refine ⟨C, T, N, hq, hc.1.1, pz_cs_in hq, hc.1.2, ?_⟩
    rcases hc.2 with h3 | h3
    · exact Or.inl (pz_at _ h3 rfl)
    · exact Or.inr ⟨_, pz_atn _ h3 rfl⟩
  · cases hc
def pz_mls : List (Nat × Nat × Nat × Nat) := [(0, 40, 76, 321), (0, 43, 67, 333), (0, 49, 20, 341), (0, 53, 16, 397), (0, 57, 15, 400), (0, 60, 65, 403), (0, 69, 25, 407), (0, 76, 74, 385), (0, 83, 66, 415), (0, 89, 73, 420), (0, 92, 75, 424), (0, 96, 28, 428), (0, 100, 29, 440), (0, 104, 17, 577), (0, 108, 77, 580), (0, 111, 39, 589), (0, 114, 18, 597), (0, 125, 63, 613), (0, 131, 71, 621), (0, 139, 83, 633), (0, 143, 19, 345), (0, 147, 40, 349), (0, 151, 36, 357), (0, 154, 42, 361), (0, 157, 21, 373), (0, 160, 22, 377), (0, 166, 24, 389), (0, 172, 23, 381), (0, 218, 81, 432), (0, 221, 82, 436), (0, 225, 30, 444), (0, 228, 69, 487), (0, 232, 70, 495), (0, 235, 31, 499), (0, 238, 32, 505), (0, 241, 33, 553), (0, 244, 34, 561), (0, 247, 44, 448), (0, 251, 54, 472), (0, 255, 26, 483), (0, 259, 50, 503), (0, 262, 53, 504), (0, 265, 41, 509), (0, 269, 27, 549), (0, 272, 62, 557), (0, 275, 43, 565), (1, 34, 38, 353), (1, 43, 60, 513), (1, 48, 37, 537), (1, 51, 58, 541), (1, 60, 53, 365), (1, 67, 45, 452), (1, 71, 46, 460), (1, 75, 47, 464), (1, 78, 50, 456), (1, 81, 51, 468), (2, 31, 52, 369), (2, 34, 50, 476), (2, 53, 55, 533), (2, 64, 49, 521), (2, 67, 59, 545), (2, 74, 56, 529), (2, 78, 57, 525), (2, 81, 61, 517), (3, 21, 66, 337), (3, 34, 68, 491), (4, 42, 78, 325), (4, 45, 81, 584), (4, 49, 79, 329), (5, 21, 84, 637), (5, 25, 85, 641), (6, 85, 99, 793), (6, 89, 100, 797), (6, 93, 101, 801), (6, 97, 102, 789), (6, 100, 94, 769), (6, 104, 95, 773), (6, 107, 92, 762), (6, 110, 93, 805), (6, 113, 97, 808), (6, 117, 98, 758), (6, 120, 91, 750), (6, 124, 107, 754), (6, 127, 106, 765), (6, 130, 108, 746), (6, 134, 109, 777), (6, 137, 110, 742), (6, 140, 89, 781), (6, 143, 103, 785), (6, 147, 104, 812), (6, 150, 111, 816), (6, 153, 112, 820), (6, 156, 96, 730), (6, 159, 90, 734), (6, 163, 113, 738), (6, 166, 105, 836), (6, 169, 116, 832), (6, 172, 88, 844), (6, 175, 87, 847)]
def pz_mth (kc idx : Nat) : Option Nat := (pz_mls.find? (fun e => e.1 == kc && e.2.1 == idx)).map (fun e => e.2.2.1)
def pz_mck (e : Nat × Nat × Nat × Nat) : Bool := decide (lw_tbl[e.2.2.2]? = some (.methodLink (pz_on e.1) e.2.1 (pz_y e.2.2.1))) || decide (lw_tbl[e.2.2.2]? = some (.methodLinkNest (pz_on e.1) e.2.1 (pz_y e.2.2.1) "LeasePair"))
set_option maxRecDepth 100000 in
theorem pz_mck_all : pz_mls.all pz_mck = true := by decide +kernel
def pz_kok (k : Nat) : Prop := plainName (pz_y k).cls = true ∧ (pz_y k).cls = pz_on (pz_kc k) ∧ ((pz_y k).cls ≠ "java/lang/invoke/MethodHandle" ∧ (pz_y k).cls ≠ "java/lang/invoke/VarHandle") ∧ (parseMethodDescriptor (pz_y k).desc).map (fun d => d.parameters.length) = some (pz_pt k).length ∧ pz_n k ≤ 13 ∧ Jvm.Cond.code (pz_y k) (pz_b k) (pz_n k) (pz_ret k) ∈ pz_ws ∧ Jvm.Cond.initialized (pz_y k).cls ∈ pz_ws ∧
  (pz_vi k = true → Jvm.Cond.instanceMethod (pz_y k) ∈ pz_ws ∧ Jvm.Cond.selects (pz_y k).cls (pz_y k) (pz_y k) ∈ pz_ws ∧ ∃ T N, pz_cs[pz_ko k]? = some ((pz_y k).cls, T, N) ∧ (pz_pt k).length + 1 ≤ pz_n k) ∧ (pz_vi k = false → Jvm.Cond.static (pz_y k) ∈ pz_ws ∧ (pz_pt k).length ≤ pz_n k)
set_option maxRecDepth 100000 in
theorem pz_k1 : pz_kok 1 := ⟨by decide +kernel, rfl, ⟨by decide +kernel, by decide +kernel⟩, by decide +kernel, by decide +kernel, pz_at 320 rfl rfl, pz_at 88 rfl rfl, fun _ => ⟨pz_at 318 rfl rfl, pz_at 319 rfl rfl, pz_T0, 5, rfl, by decide +kernel⟩, fun h => by cases h⟩
set_option maxRecDepth 100000 in
theorem pz_k2 : pz_kok 2 := ⟨by decide +kernel, rfl, ⟨by decide +kernel, by decide +kernel⟩, by decide +kernel, by decide +kernel, pz_at 396 rfl rfl, pz_at 88 rfl rfl, fun _ => ⟨pz_at 394 rfl rfl, pz_at 395 rfl rfl, pz_T0, 5, rfl, by decide +kernel⟩, fun h => by cases h⟩
set_option maxRecDepth 100000 in
theorem pz_k3 : pz_kok 3 := ⟨by decide +kernel, rfl, ⟨by decide +kernel, by decide +kernel⟩, by decide +kernel, by decide +kernel, pz_at 414 rfl rfl, pz_at 88 rfl rfl, fun _ => ⟨pz_at 412 rfl rfl, pz_at 413 rfl rfl, pz_T0, 5, rfl, by decide +kernel⟩, fun h => by cases h⟩
set_option maxRecDepth 100000 in
theorem pz_k4 : pz_kok 4 := ⟨by decide +kernel, rfl, ⟨by decide +kernel, by decide +kernel⟩, by decide +kernel, by decide +kernel, pz_at 419 rfl rfl, pz_at 88 rfl rfl, fun _ => ⟨pz_at 417 rfl rfl, pz_at 418 rfl rfl, pz_T0, 5, rfl, by decide +kernel⟩, fun h => by cases h⟩
set_option maxRecDepth 100000 in
theorem pz_k5 : pz_kok 5 := ⟨by decide +kernel, rfl, ⟨by decide +kernel, by decide +kernel⟩, by decide +kernel, by decide +kernel, pz_at 572 rfl rfl, pz_at 88 rfl rfl, fun _ => ⟨pz_at 570 rfl rfl, pz_at 571 rfl rfl, pz_T0, 5, rfl, by decide +kernel⟩, fun h => by cases h⟩
set_option maxRecDepth 100000 in
theorem pz_k6 : pz_kok 6 := ⟨by decide +kernel, rfl, ⟨by decide +kernel, by decide +kernel⟩, by decide +kernel, by decide +kernel, pz_at 576 rfl rfl, pz_at 88 rfl rfl, fun _ => ⟨pz_at 574 rfl rfl, pz_at 575 rfl rfl, pz_T0, 5, rfl, by decide +kernel⟩, fun h => by cases h⟩
set_option maxRecDepth 100000 in
theorem pz_k7 : pz_kok 7 := ⟨by decide +kernel, rfl, ⟨by decide +kernel, by decide +kernel⟩, by decide +kernel, by decide +kernel, pz_at 588 rfl rfl, pz_at 88 rfl rfl, fun _ => ⟨pz_at 586 rfl rfl, pz_at 587 rfl rfl, pz_T0, 5, rfl, by decide +kernel⟩, fun h => by cases h⟩
set_option maxRecDepth 100000 in
theorem pz_k8 : pz_kok 8 := ⟨by decide +kernel, rfl, ⟨by decide +kernel, by decide +kernel⟩, by decide +kernel, by decide +kernel, pz_at 596 rfl rfl, pz_at 88 rfl rfl, fun _ => ⟨pz_at 594 rfl rfl, pz_at 595 rfl rfl, pz_T0, 5, rfl, by decide +kernel⟩, fun h => by cases h⟩
set_option maxRecDepth 100000 in
theorem pz_k9 : pz_kok 9 := ⟨by decide +kernel, rfl, ⟨by decide +kernel, by decide +kernel⟩, by decide +kernel, by decide +kernel, pz_at 604 rfl rfl, pz_at 88 rfl rfl, fun _ => ⟨pz_at 602 rfl rfl, pz_at 603 rfl rfl, pz_T0, 5, rfl, by decide +kernel⟩, fun h => by cases h⟩
set_option maxRecDepth 100000 in
theorem pz_k10 : pz_kok 10 := ⟨by decide +kernel, rfl, ⟨by decide +kernel, by decide +kernel⟩, by decide +kernel, by decide +kernel, pz_at 608 rfl rfl, pz_at 88 rfl rfl, fun _ => ⟨pz_at 606 rfl rfl, pz_at 607 rfl rfl, pz_T0, 5, rfl, by decide +kernel⟩, fun h => by cases h⟩
set_option maxRecDepth 100000 in
theorem pz_k11 : pz_kok 11 := ⟨by decide +kernel, rfl, ⟨by decide +kernel, by decide +kernel⟩, by decide +kernel, by decide +kernel, pz_at 612 rfl rfl, pz_at 88 rfl rfl, fun _ => ⟨pz_at 610 rfl rfl, pz_at 611 rfl rfl, pz_T0, 5, rfl, by decide +kernel⟩, fun h => by cases h⟩
set_option maxRecDepth 100000 in
theorem pz_k12 : pz_kok 12 := ⟨by decide +kernel, rfl, ⟨by decide +kernel, by decide +kernel⟩, by decide +kernel, by decide +kernel, pz_at 620 rfl rfl, pz_at 88 rfl rfl, fun _ => ⟨pz_at 618 rfl rfl, pz_at 619 rfl rfl, pz_T0, 5, rfl, by decide +kernel⟩, fun h => by cases h⟩
set_option maxRecDepth 100000 in
theorem pz_k13 : pz_kok 13 := ⟨by decide +kernel, rfl, ⟨by decide +kernel, by decide +kernel⟩, by decide +kernel, by decide +kernel, pz_at 628 rfl rfl, pz_at 88 rfl rfl, fun _ => ⟨pz_at 626 rfl rfl, pz_at 627 rfl rfl, pz_T0, 5, rfl, by decide +kernel⟩, fun h => by cases h⟩
set_option maxRecDepth 100000 in
theorem pz_k14 : pz_kok 14 := ⟨by decide +kernel, rfl, ⟨by decide +kernel, by decide +kernel⟩, by decide +kernel, by decide +kernel, pz_at 632 rfl rfl, pz_at 88 rfl rfl, fun _ => ⟨pz_at 630 rfl rfl, pz_at 631 rfl rfl, pz_T0, 5, rfl, by decide +kernel⟩, fun h => by cases h⟩
set_option maxRecDepth 100000 in
theorem pz_k15 : pz_kok 15 := ⟨by decide +kernel, rfl, ⟨by decide +kernel, by decide +kernel⟩, by decide +kernel, by decide +kernel, pz_at 402 rfl rfl, pz_at 88 rfl rfl, (fun h => by cases h), fun _ => ⟨pz_at 401 rfl rfl, by decide +kernel⟩⟩
set_option maxRecDepth 100000 in
theorem pz_k16 : pz_kok 16 := ⟨by decide +kernel, rfl, ⟨by decide +kernel, by decide +kernel⟩, by decide +kernel, by decide +kernel, pz_at 399 rfl rfl, pz_at 88 rfl rfl, (fun h => by cases h), fun _ => ⟨pz_at 398 rfl rfl, by decide +kernel⟩⟩
set_option maxRecDepth 100000 in
theorem pz_k17 : pz_kok 17 := ⟨by decide +kernel, rfl, ⟨by decide +kernel, by decide +kernel⟩, by decide +kernel, by decide +kernel, pz_at 579 rfl rfl, pz_at 88 rfl rfl, (fun h => by cases h), fun _ => ⟨pz_at 578 rfl rfl, by decide +kernel⟩⟩
set_option maxRecDepth 100000 in
theorem pz_k18 : pz_kok 18 := ⟨by decide +kernel, rfl, ⟨by decide +kernel, by decide +kernel⟩, by decide +kernel, by decide +kernel, pz_at 600 rfl rfl, pz_at 88 rfl rfl, fun _ => ⟨pz_at 599 rfl rfl, pz_at 57 rfl rfl, pz_T0, 5, rfl, by decide +kernel⟩, fun h => by cases h⟩
set_option maxRecDepth 100000 in
theorem pz_k19 : pz_kok 19 := ⟨by decide +kernel, rfl, ⟨by decide +kernel, by decide +kernel⟩, by decide +kernel, by decide +kernel, pz_at 348 rfl rfl, pz_at 88 rfl rfl, fun _ => ⟨pz_at 347 rfl rfl, pz_at 6 rfl rfl, pz_T0, 5, rfl, by decide +kernel⟩, fun h => by cases h⟩
set_option maxRecDepth 100000 in
theorem pz_k20 : pz_kok 20 := ⟨by decide +kernel, rfl, ⟨by decide +kernel, by decide +kernel⟩, by decide +kernel, by decide +kernel, pz_at 344 rfl rfl, pz_at 88 rfl rfl, fun _ => ⟨pz_at 343 rfl rfl, pz_at 5 rfl rfl, pz_T0, 5, rfl, by decide +kernel⟩, fun h => by cases h⟩
set_option maxRecDepth 100000 in
theorem pz_k21 : pz_kok 21 := ⟨by decide +kernel, rfl, ⟨by decide +kernel, by decide +kernel⟩, by decide +kernel, by decide +kernel, pz_at 376 rfl rfl, pz_at 88 rfl rfl, fun _ => ⟨pz_at 375 rfl rfl, pz_at 13 rfl rfl, pz_T0, 5, rfl, by decide +kernel⟩, fun h => by cases h⟩
set_option maxRecDepth 100000 in
theorem pz_k22 : pz_kok 22 := ⟨by decide +kernel, rfl, ⟨by decide +kernel, by decide +kernel⟩, by decide +kernel, by decide +kernel, pz_at 380 rfl rfl, pz_at 88 rfl rfl, fun _ => ⟨pz_at 379 rfl rfl, pz_at 14 rfl rfl, pz_T0, 5, rfl, by decide +kernel⟩, fun h => by cases h⟩
set_option maxRecDepth 100000 in
theorem pz_k23 : pz_kok 23 := ⟨by decide +kernel, rfl, ⟨by decide +kernel, by decide +kernel⟩, by decide +kernel, by decide +kernel, pz_at 384 rfl rfl, pz_at 88 rfl rfl, fun _ => ⟨pz_at 383 rfl rfl, pz_at 15 rfl rfl, pz_T0, 5, rfl, by decide +kernel⟩, fun h => by cases h⟩
set_option maxRecDepth 100000 in
theorem pz_k24 : pz_kok 24 := ⟨by decide +kernel, rfl, ⟨by decide +kernel, by decide +kernel⟩, by decide +kernel, by decide +kernel, pz_at 392 rfl rfl, pz_at 88 rfl rfl, fun _ => ⟨pz_at 391 rfl rfl, pz_at 17 rfl rfl, pz_T0, 5, rfl, by decide +kernel⟩, fun h => by cases h⟩
set_option maxRecDepth 100000 in
theorem pz_k25 : pz_kok 25 := ⟨by decide +kernel, rfl, ⟨by decide +kernel, by decide +kernel⟩, by decide +kernel, by decide +kernel, pz_at 410 rfl rfl, pz_at 88 rfl rfl, fun _ => ⟨pz_at 409 rfl rfl, pz_at 19 rfl rfl, pz_T0, 5, rfl, by decide +kernel⟩, fun h => by cases h⟩
set_option maxRecDepth 100000 in
theorem pz_k26 : pz_kok 26 := ⟨by decide +kernel, rfl, ⟨by decide +kernel, by decide +kernel⟩, by decide +kernel, by decide +kernel, pz_at 486 rfl rfl, pz_at 88 rfl rfl, fun _ => ⟨pz_at 485 rfl rfl, pz_at 34 rfl rfl, pz_T0, 5, rfl, by decide +kernel⟩, fun h => by cases h⟩
set_option maxRecDepth 100000 in
theorem pz_k27 : pz_kok 27 := ⟨by decide +kernel, rfl, ⟨by decide +kernel, by decide +kernel⟩, by decide +kernel, by decide +kernel, pz_at 552 rfl rfl, pz_at 88 rfl rfl, fun _ => ⟨pz_at 551 rfl rfl, pz_at 50 rfl rfl, pz_T0, 5, rfl, by decide +kernel⟩, fun h => by cases h⟩
set_option maxRecDepth 100000 in
theorem pz_k28 : pz_kok 28 := ⟨by decide +kernel, rfl, ⟨by decide +kernel, by decide +kernel⟩, by decide +kernel, by decide +kernel, pz_at 431 rfl rfl, pz_at 88 rfl rfl, fun _ => ⟨pz_at 430 rfl rfl, pz_at 22 rfl rfl, pz_T0, 5, rfl, by decide +kernel⟩, fun h => by cases h⟩
set_option maxRecDepth 100000 in
theorem pz_k29 : pz_kok 29 := ⟨by decide +kernel, rfl, ⟨by decide +kernel, by decide +kernel⟩, by decide +kernel, by decide +kernel, pz_at 443 rfl rfl, pz_at 88 rfl rfl, fun _ => ⟨pz_at 442 rfl rfl, pz_at 25 rfl rfl, pz_T0, 5, rfl, by decide +kernel⟩, fun h => by cases h⟩
set_option maxRecDepth 100000 in
theorem pz_k30 : pz_kok 30 := ⟨by decide +kernel, rfl, ⟨by decide +kernel, by decide +kernel⟩, by decide +kernel, by decide +kernel, pz_at 447 rfl rfl, pz_at 88 rfl rfl, fun _ => ⟨pz_at 446 rfl rfl, pz_at 26 rfl rfl, pz_T0, 5, rfl, by decide +kernel⟩, fun h => by cases h⟩
set_option maxRecDepth 100000 in
theorem pz_k31 : pz_kok 31 := ⟨by decide +kernel, rfl, ⟨by decide +kernel, by decide +kernel⟩, by decide +kernel, by decide +kernel, pz_at 502 rfl rfl, pz_at 88 rfl rfl, fun _ => ⟨pz_at 501 rfl rfl, pz_at 38 rfl rfl, pz_T0, 5, rfl, by decide +kernel⟩, fun h => by cases h⟩
set_option maxRecDepth 100000 in
theorem pz_k32 : pz_kok 32 := ⟨by decide +kernel, rfl, ⟨by decide +kernel, by decide +kernel⟩, by decide +kernel, by decide +kernel, pz_at 508 rfl rfl, pz_at 88 rfl rfl, fun _ => ⟨pz_at 507 rfl rfl, pz_at 39 rfl rfl, pz_T0, 5, rfl, by decide +kernel⟩, fun h => by cases h⟩
set_option maxRecDepth 100000 in
theorem pz_k33 : pz_kok 33 := ⟨by decide +kernel, rfl, ⟨by decide +kernel, by decide +kernel⟩, by decide +kernel, by decide +kernel, pz_at 556 rfl rfl, pz_at 88 rfl rfl, fun _ => ⟨pz_at 555 rfl rfl, pz_at 51 rfl rfl, pz_T0, 5, rfl, by decide +kernel⟩, fun h => by cases h⟩
set_option maxRecDepth 100000 in
theorem pz_k34 : pz_kok 34 := ⟨by decide +kernel, rfl, ⟨by decide +kernel, by decide +kernel⟩, by decide +kernel, by decide +kernel, pz_at 564 rfl rfl, pz_at 88 rfl rfl, fun _ => ⟨pz_at 563 rfl rfl, pz_at 53 rfl rfl, pz_T0, 5, rfl, by decide +kernel⟩, fun h => by cases h⟩
set_option maxRecDepth 100000 in
theorem pz_k36 : pz_kok 36 := ⟨by decide +kernel, rfl, ⟨by decide +kernel, by decide +kernel⟩, by decide +kernel, by decide +kernel, pz_at 360 rfl rfl, pz_at 89 rfl rfl, fun _ => ⟨pz_at 359 rfl rfl, pz_at 9 rfl rfl, pz_T1, 7, rfl, by decide +kernel⟩, fun h => by cases h⟩
set_option maxRecDepth 100000 in
theorem pz_k37 : pz_kok 37 := ⟨by decide +kernel, rfl, ⟨by decide +kernel, by decide +kernel⟩, by decide +kernel, by decide +kernel, pz_at 540 rfl rfl, pz_at 89 rfl rfl, fun _ => ⟨pz_at 539 rfl rfl, pz_at 47 rfl rfl, pz_T1, 7, rfl, by decide +kernel⟩, fun h => by cases h⟩
set_option maxRecDepth 100000 in
theorem pz_k38 : pz_kok 38 := ⟨by decide +kernel, rfl, ⟨by decide +kernel, by decide +kernel⟩, by decide +kernel, by decide +kernel, pz_at 356 rfl rfl, pz_at 89 rfl rfl, fun _ => ⟨pz_at 355 rfl rfl, pz_at 8 rfl rfl, pz_T1, 7, rfl, by decide +kernel⟩, fun h => by cases h⟩
set_option maxRecDepth 100000 in
theorem pz_k39 : pz_kok 39 := ⟨by decide +kernel, rfl, ⟨by decide +kernel, by decide +kernel⟩, by decide +kernel, by decide +kernel, pz_at 592 rfl rfl, pz_at 89 rfl rfl, fun _ => ⟨pz_at 591 rfl rfl, pz_at 56 rfl rfl, pz_T1, 7, rfl, by decide +kernel⟩, fun h => by cases h⟩
set_option maxRecDepth 100000 in
theorem pz_k40 : pz_kok 40 := ⟨by decide +kernel, rfl, ⟨by decide +kernel, by decide +kernel⟩, by decide +kernel, by decide +kernel, pz_at 352 rfl rfl, pz_at 89 rfl rfl, fun _ => ⟨pz_at 351 rfl rfl, pz_at 7 rfl rfl, pz_T1, 7, rfl, by decide +kernel⟩, fun h => by cases h⟩
set_option maxRecDepth 100000 in
theorem pz_k41 : pz_kok 41 := ⟨by decide +kernel, rfl, ⟨by decide +kernel, by decide +kernel⟩, by decide +kernel, by decide +kernel, pz_at 512 rfl rfl, pz_at 89 rfl rfl, fun _ => ⟨pz_at 511 rfl rfl, pz_at 40 rfl rfl, pz_T1, 7, rfl, by decide +kernel⟩, fun h => by cases h⟩
set_option maxRecDepth 100000 in
theorem pz_k42 : pz_kok 42 := ⟨by decide +kernel, rfl, ⟨by decide +kernel, by decide +kernel⟩, by decide +kernel, by decide +kernel, pz_at 364 rfl rfl, pz_at 89 rfl rfl, fun _ => ⟨pz_at 363 rfl rfl, pz_at 10 rfl rfl, pz_T1, 7, rfl, by decide +kernel⟩, fun h => by cases h⟩
set_option maxRecDepth 100000 in
theorem pz_k43 : pz_kok 43 := ⟨by decide +kernel, rfl, ⟨by decide +kernel, by decide +kernel⟩, by decide +kernel, by decide +kernel, pz_at 568 rfl rfl, pz_at 89 rfl rfl, fun _ => ⟨pz_at 567 rfl rfl, pz_at 54 rfl rfl, pz_T1, 7, rfl, by decide +kernel⟩, fun h => by cases h⟩
set_option maxRecDepth 100000 in
theorem pz_k44 : pz_kok 44 := ⟨by decide +kernel, rfl, ⟨by decide +kernel, by decide +kernel⟩, by decide +kernel, by decide +kernel, pz_at 451 rfl rfl, pz_at 89 rfl rfl, fun _ => ⟨pz_at 450 rfl rfl, pz_at 27 rfl rfl, pz_T1, 7, rfl, by decide +kernel⟩, fun h => by cases h⟩
set_option maxRecDepth 100000 in
theorem pz_k45 : pz_kok 45 := ⟨by decide +kernel, rfl, ⟨by decide +kernel, by decide +kernel⟩, by decide +kernel, by decide +kernel, pz_at 455 rfl rfl, pz_at 89 rfl rfl, fun _ => ⟨pz_at 454 rfl rfl, pz_at 28 rfl rfl, pz_T1, 7, rfl, by decide +kernel⟩, fun h => by cases h⟩
set_option maxRecDepth 100000 in
theorem pz_k46 : pz_kok 46 := ⟨by decide +kernel, rfl, ⟨by decide +kernel, by decide +kernel⟩, by decide +kernel, by decide +kernel, pz_at 463 rfl rfl, pz_at 89 rfl rfl, fun _ => ⟨pz_at 462 rfl rfl, pz_at 30 rfl rfl, pz_T1, 7, rfl, by decide +kernel⟩, fun h => by cases h⟩
set_option maxRecDepth 100000 in
theorem pz_k47 : pz_kok 47 := ⟨by decide +kernel, rfl, ⟨by decide +kernel, by decide +kernel⟩, by decide +kernel, by decide +kernel, pz_at 467 rfl rfl, pz_at 89 rfl rfl, fun _ => ⟨pz_at 466 rfl rfl, pz_at 31 rfl rfl, pz_T1, 7, rfl, by decide +kernel⟩, fun h => by cases h⟩
set_option maxRecDepth 100000 in
theorem pz_k49 : pz_kok 49 := ⟨by decide +kernel, rfl, ⟨by decide +kernel, by decide +kernel⟩, by decide +kernel, by decide +kernel, pz_at 524 rfl rfl, pz_at 90 rfl rfl, fun _ => ⟨pz_at 523 rfl rfl, pz_at 43 rfl rfl, pz_T2, 8, rfl, by decide +kernel⟩, fun h => by cases h⟩
set_option maxRecDepth 100000 in
theorem pz_k50 : pz_kok 50 := ⟨by decide +kernel, rfl, ⟨by decide +kernel, by decide +kernel⟩, by decide +kernel, by decide +kernel, pz_at 459 rfl rfl, pz_at 90 rfl rfl, fun _ => ⟨pz_at 458 rfl rfl, pz_at 29 rfl rfl, pz_T2, 8, rfl, by decide +kernel⟩, fun h => by cases h⟩
set_option maxRecDepth 100000 in
theorem pz_k51 : pz_kok 51 := ⟨by decide +kernel, rfl, ⟨by decide +kernel, by decide +kernel⟩, by decide +kernel, by decide +kernel, pz_at 471 rfl rfl, pz_at 90 rfl rfl, fun _ => ⟨pz_at 470 rfl rfl, pz_at 32 rfl rfl, pz_T2, 8, rfl, by decide +kernel⟩, fun h => by cases h⟩
set_option maxRecDepth 100000 in
theorem pz_k52 : pz_kok 52 := ⟨by decide +kernel, rfl, ⟨by decide +kernel, by decide +kernel⟩, by decide +kernel, by decide +kernel, pz_at 372 rfl rfl, pz_at 90 rfl rfl, fun _ => ⟨pz_at 371 rfl rfl, pz_at 12 rfl rfl, pz_T2, 8, rfl, by decide +kernel⟩, fun h => by cases h⟩
set_option maxRecDepth 100000 in
theorem pz_k53 : pz_kok 53 := ⟨by decide +kernel, rfl, ⟨by decide +kernel, by decide +kernel⟩, by decide +kernel, by decide +kernel, pz_at 368 rfl rfl, pz_at 90 rfl rfl, fun _ => ⟨pz_at 367 rfl rfl, pz_at 11 rfl rfl, pz_T2, 8, rfl, by decide +kernel⟩, fun h => by cases h⟩
set_option maxRecDepth 100000 in
theorem pz_k54 : pz_kok 54 := ⟨by decide +kernel, rfl, ⟨by decide +kernel, by decide +kernel⟩, by decide +kernel, by decide +kernel, pz_at 475 rfl rfl, pz_at 90 rfl rfl, fun _ => ⟨pz_at 474 rfl rfl, pz_at 33 rfl rfl, pz_T2, 8, rfl, by decide +kernel⟩, fun h => by cases h⟩
set_option maxRecDepth 100000 in
theorem pz_k55 : pz_kok 55 := ⟨by decide +kernel, rfl, ⟨by decide +kernel, by decide +kernel⟩, by decide +kernel, by decide +kernel, pz_at 536 rfl rfl, pz_at 90 rfl rfl, fun _ => ⟨pz_at 535 rfl rfl, pz_at 46 rfl rfl, pz_T2, 8, rfl, by decide +kernel⟩, fun h => by cases h⟩
set_option maxRecDepth 100000 in
theorem pz_k56 : pz_kok 56 := ⟨by decide +kernel, rfl, ⟨by decide +kernel, by decide +kernel⟩, by decide +kernel, by decide +kernel, pz_at 532 rfl rfl, pz_at 90 rfl rfl, fun _ => ⟨pz_at 531 rfl rfl, pz_at 45 rfl rfl, pz_T2, 8, rfl, by decide +kernel⟩, fun h => by cases h⟩
set_option maxRecDepth 100000 in
theorem pz_k57 : pz_kok 57 := ⟨by decide +kernel, rfl, ⟨by decide +kernel, by decide +kernel⟩, by decide +kernel, by decide +kernel, pz_at 528 rfl rfl, pz_at 90 rfl rfl, fun _ => ⟨pz_at 527 rfl rfl, pz_at 44 rfl rfl, pz_T2, 8, rfl, by decide +kernel⟩, fun h => by cases h⟩
set_option maxRecDepth 100000 in
theorem pz_k58 : pz_kok 58 := ⟨by decide +kernel, rfl, ⟨by decide +kernel, by decide +kernel⟩, by decide +kernel, by decide +kernel, pz_at 544 rfl rfl, pz_at 90 rfl rfl, fun _ => ⟨pz_at 543 rfl rfl, pz_at 48 rfl rfl, pz_T2, 8, rfl, by decide +kernel⟩, fun h => by cases h⟩
set_option maxRecDepth 100000 in
theorem pz_k59 : pz_kok 59 := ⟨by decide +kernel, rfl, ⟨by decide +kernel, by decide +kernel⟩, by decide +kernel, by decide +kernel, pz_at 548 rfl rfl, pz_at 90 rfl rfl, fun _ => ⟨pz_at 547 rfl rfl, pz_at 49 rfl rfl, pz_T2, 8, rfl, by decide +kernel⟩, fun h => by cases h⟩
set_option maxRecDepth 100000 in
theorem pz_k60 : pz_kok 60 := ⟨by decide +kernel, rfl, ⟨by decide +kernel, by decide +kernel⟩, by decide +kernel, by decide +kernel, pz_at 516 rfl rfl, pz_at 90 rfl rfl, fun _ => ⟨pz_at 515 rfl rfl, pz_at 41 rfl rfl, pz_T2, 8, rfl, by decide +kernel⟩, fun h => by cases h⟩
set_option maxRecDepth 100000 in
theorem pz_k61 : pz_kok 61 := ⟨by decide +kernel, rfl, ⟨by decide +kernel, by decide +kernel⟩, by decide +kernel, by decide +kernel, pz_at 520 rfl rfl, pz_at 90 rfl rfl, fun _ => ⟨pz_at 519 rfl rfl, pz_at 42 rfl rfl, pz_T2, 8, rfl, by decide +kernel⟩, fun h => by cases h⟩
set_option maxRecDepth 100000 in
theorem pz_k62 : pz_kok 62 := ⟨by decide +kernel, rfl, ⟨by decide +kernel, by decide +kernel⟩, by decide +kernel, by decide +kernel, pz_at 560 rfl rfl, pz_at 90 rfl rfl, fun _ => ⟨pz_at 559 rfl rfl, pz_at 52 rfl rfl, pz_T2, 8, rfl, by decide +kernel⟩, fun h => by cases h⟩
set_option maxRecDepth 100000 in
theorem pz_k63 : pz_kok 63 := ⟨by decide +kernel, rfl, ⟨by decide +kernel, by decide +kernel⟩, by decide +kernel, by decide +kernel, pz_at 616 rfl rfl, pz_at 90 rfl rfl, fun _ => ⟨pz_at 615 rfl rfl, pz_at 58 rfl rfl, pz_T2, 8, rfl, by decide +kernel⟩, fun h => by cases h⟩
set_option maxRecDepth 100000 in
theorem pz_k65 : pz_kok 65 := ⟨by decide +kernel, rfl, ⟨by decide +kernel, by decide +kernel⟩, by decide +kernel, by decide +kernel, pz_at 406 rfl rfl, pz_at 91 rfl rfl, fun _ => ⟨pz_at 405 rfl rfl, pz_at 18 rfl rfl, pz_T3, 5, rfl, by decide +kernel⟩, fun h => by cases h⟩
set_option maxRecDepth 100000 in
theorem pz_k66 : pz_kok 66 := ⟨by decide +kernel, rfl, ⟨by decide +kernel, by decide +kernel⟩, by decide +kernel, by decide +kernel, pz_at 340 rfl rfl, pz_at 91 rfl rfl, fun _ => ⟨pz_at 339 rfl rfl, pz_at 4 rfl rfl, pz_T3, 5, rfl, by decide +kernel⟩, fun h => by cases h⟩
set_option maxRecDepth 100000 in
theorem pz_k67 : pz_kok 67 := ⟨by decide +kernel, rfl, ⟨by decide +kernel, by decide +kernel⟩, by decide +kernel, by decide +kernel, pz_at 336 rfl rfl, pz_at 91 rfl rfl, fun _ => ⟨pz_at 335 rfl rfl, pz_at 3 rfl rfl, pz_T3, 5, rfl, by decide +kernel⟩, fun h => by cases h⟩
set_option maxRecDepth 100000 in
theorem pz_k68 : pz_kok 68 := ⟨by decide +kernel, rfl, ⟨by decide +kernel, by decide +kernel⟩, by decide +kernel, by decide +kernel, pz_at 494 rfl rfl, pz_at 91 rfl rfl, fun _ => ⟨pz_at 493 rfl rfl, pz_at 36 rfl rfl, pz_T3, 5, rfl, by decide +kernel⟩, fun h => by cases h⟩
set_option maxRecDepth 100000 in
theorem pz_k69 : pz_kok 69 := ⟨by decide +kernel, rfl, ⟨by decide +kernel, by decide +kernel⟩, by decide +kernel, by decide +kernel, pz_at 490 rfl rfl, pz_at 91 rfl rfl, fun _ => ⟨pz_at 489 rfl rfl, pz_at 35 rfl rfl, pz_T3, 5, rfl, by decide +kernel⟩, fun h => by cases h⟩
set_option maxRecDepth 100000 in
theorem pz_k70 : pz_kok 70 := ⟨by decide +kernel, rfl, ⟨by decide +kernel, by decide +kernel⟩, by decide +kernel, by decide +kernel, pz_at 498 rfl rfl, pz_at 91 rfl rfl, fun _ => ⟨pz_at 497 rfl rfl, pz_at 37 rfl rfl, pz_T3, 5, rfl, by decide +kernel⟩, fun h => by cases h⟩
set_option maxRecDepth 100000 in
theorem pz_k71 : pz_kok 71 := ⟨by decide +kernel, rfl, ⟨by decide +kernel, by decide +kernel⟩, by decide +kernel, by decide +kernel, pz_at 624 rfl rfl, pz_at 91 rfl rfl, fun _ => ⟨pz_at 623 rfl rfl, pz_at 59 rfl rfl, pz_T3, 5, rfl, by decide +kernel⟩, fun h => by cases h⟩
set_option maxRecDepth 100000 in
theorem pz_k73 : pz_kok 73 := ⟨by decide +kernel, rfl, ⟨by decide +kernel, by decide +kernel⟩, by decide +kernel, by decide +kernel, pz_at 423 rfl rfl, pz_at 92 rfl rfl, fun _ => ⟨pz_at 422 rfl rfl, pz_at 20 rfl rfl, pz_T4, 3, rfl, by decide +kernel⟩, fun h => by cases h⟩
set_option maxRecDepth 100000 in
theorem pz_k74 : pz_kok 74 := ⟨by decide +kernel, rfl, ⟨by decide +kernel, by decide +kernel⟩, by decide +kernel, by decide +kernel, pz_at 388 rfl rfl, pz_at 92 rfl rfl, fun _ => ⟨pz_at 387 rfl rfl, pz_at 16 rfl rfl, pz_T4, 3, rfl, by decide +kernel⟩, fun h => by cases h⟩
set_option maxRecDepth 100000 in
theorem pz_k75 : pz_kok 75 := ⟨by decide +kernel, rfl, ⟨by decide +kernel, by decide +kernel⟩, by decide +kernel, by decide +kernel, pz_at 427 rfl rfl, pz_at 92 rfl rfl, fun _ => ⟨pz_at 426 rfl rfl, pz_at 21 rfl rfl, pz_T4, 3, rfl, by decide +kernel⟩, fun h => by cases h⟩
set_option maxRecDepth 100000 in
theorem pz_k76 : pz_kok 76 := ⟨by decide +kernel, rfl, ⟨by decide +kernel, by decide +kernel⟩, by decide +kernel, by decide +kernel, pz_at 324 rfl rfl, pz_at 92 rfl rfl, fun _ => ⟨pz_at 323 rfl rfl, pz_at 0 rfl rfl, pz_T4, 3, rfl, by decide +kernel⟩, fun h => by cases h⟩
set_option maxRecDepth 100000 in
theorem pz_k77 : pz_kok 77 := ⟨by decide +kernel, rfl, ⟨by decide +kernel, by decide +kernel⟩, by decide +kernel, by decide +kernel, pz_at 583 rfl rfl, pz_at 92 rfl rfl, fun _ => ⟨pz_at 582 rfl rfl, pz_at 55 rfl rfl, pz_T4, 3, rfl, by decide +kernel⟩, fun h => by cases h⟩
set_option maxRecDepth 100000 in
theorem pz_k78 : pz_kok 78 := ⟨by decide +kernel, rfl, ⟨by decide +kernel, by decide +kernel⟩, by decide +kernel, by decide +kernel, pz_at 328 rfl rfl, pz_at 92 rfl rfl, fun _ => ⟨pz_at 327 rfl rfl, pz_at 1 rfl rfl, pz_T4, 3, rfl, by decide +kernel⟩, fun h => by cases h⟩
set_option maxRecDepth 100000 in
theorem pz_k79 : pz_kok 79 := ⟨by decide +kernel, rfl, ⟨by decide +kernel, by decide +kernel⟩, by decide +kernel, by decide +kernel, pz_at 332 rfl rfl, pz_at 92 rfl rfl, fun _ => ⟨pz_at 331 rfl rfl, pz_at 2 rfl rfl, pz_T4, 3, rfl, by decide +kernel⟩, fun h => by cases h⟩
set_option maxRecDepth 100000 in
theorem pz_k81 : pz_kok 81 := ⟨by decide +kernel, rfl, ⟨by decide +kernel, by decide +kernel⟩, by decide +kernel, by decide +kernel, pz_at 435 rfl rfl, pz_at 93 rfl rfl, fun _ => ⟨pz_at 434 rfl rfl, pz_at 23 rfl rfl, pz_T5, 15, rfl, by decide +kernel⟩, fun h => by cases h⟩
set_option maxRecDepth 100000 in
theorem pz_k82 : pz_kok 82 := ⟨by decide +kernel, rfl, ⟨by decide +kernel, by decide +kernel⟩, by decide +kernel, by decide +kernel, pz_at 439 rfl rfl, pz_at 93 rfl rfl, fun _ => ⟨pz_at 438 rfl rfl, pz_at 24 rfl rfl, pz_T5, 15, rfl, by decide +kernel⟩, fun h => by cases h⟩
set_option maxRecDepth 100000 in
theorem pz_k83 : pz_kok 83 := ⟨by decide +kernel, rfl, ⟨by decide +kernel, by decide +kernel⟩, by decide +kernel, by decide +kernel, pz_at 636 rfl rfl, pz_at 93 rfl rfl, fun _ => ⟨pz_at 635 rfl rfl, pz_at 60 rfl rfl, pz_T5, 15, rfl, by decide +kernel⟩, fun h => by cases h⟩
set_option maxRecDepth 100000 in
theorem pz_k84 : pz_kok 84 := ⟨by decide +kernel, rfl, ⟨by decide +kernel, by decide +kernel⟩, by decide +kernel, by decide +kernel, pz_at 640 rfl rfl, pz_at 93 rfl rfl, fun _ => ⟨pz_at 639 rfl rfl, pz_at 61 rfl rfl, pz_T5, 15, rfl, by decide +kernel⟩, fun h => by cases h⟩
set_option maxRecDepth 100000 in
theorem pz_k85 : pz_kok 85 := ⟨by decide +kernel, rfl, ⟨by decide +kernel, by decide +kernel⟩, by decide +kernel, by decide +kernel, pz_at 644 rfl rfl, pz_at 93 rfl rfl, fun _ => ⟨pz_at 643 rfl rfl, pz_at 62 rfl rfl, pz_T5, 15, rfl, by decide +kernel⟩, fun h => by cases h⟩
set_option maxRecDepth 100000 in
theorem pz_k87 : pz_kok 87 := ⟨by decide +kernel, rfl, ⟨by decide +kernel, by decide +kernel⟩, by decide +kernel, by decide +kernel, pz_at 849 rfl rfl, pz_at 94 rfl rfl, (fun h => by cases h), fun _ => ⟨pz_at 848 rfl rfl, by decide +kernel⟩⟩
set_option maxRecDepth 100000 in
theorem pz_k88 : pz_kok 88 := ⟨by decide +kernel, rfl, ⟨by decide +kernel, by decide +kernel⟩, by decide +kernel, by decide +kernel, pz_at 846 rfl rfl, pz_at 94 rfl rfl, (fun h => by cases h), fun _ => ⟨pz_at 845 rfl rfl, by decide +kernel⟩⟩
set_option maxRecDepth 100000 in
theorem pz_k89 : pz_kok 89 := ⟨by decide +kernel, rfl, ⟨by decide +kernel, by decide +kernel⟩, by decide +kernel, by decide +kernel, pz_at 784 rfl rfl, pz_at 94 rfl rfl, fun _ => ⟨pz_at 783 rfl rfl, pz_at 75 rfl rfl, pz_T6, 24, rfl, by decide +kernel⟩, fun h => by cases h⟩
set_option maxRecDepth 100000 in
theorem pz_k90 : pz_kok 90 := ⟨by decide +kernel, rfl, ⟨by decide +kernel, by decide +kernel⟩, by decide +kernel, by decide +kernel, pz_at 737 rfl rfl, pz_at 94 rfl rfl, fun _ => ⟨pz_at 736 rfl rfl, pz_at 64 rfl rfl, pz_T6, 24, rfl, by decide +kernel⟩, fun h => by cases h⟩
set_option maxRecDepth 100000 in
theorem pz_k91 : pz_kok 91 := ⟨by decide +kernel, rfl, ⟨by decide +kernel, by decide +kernel⟩, by decide +kernel, by decide +kernel, pz_at 753 rfl rfl, pz_at 94 rfl rfl, fun _ => ⟨pz_at 752 rfl rfl, pz_at 68 rfl rfl, pz_T6, 24, rfl, by decide +kernel⟩, fun h => by cases h⟩
set_option maxRecDepth 100000 in
theorem pz_k92 : pz_kok 92 := ⟨by decide +kernel, rfl, ⟨by decide +kernel, by decide +kernel⟩, by decide +kernel, by decide +kernel, pz_at 764 rfl rfl, pz_at 94 rfl rfl, (fun h => by cases h), fun _ => ⟨pz_at 763 rfl rfl, by decide +kernel⟩⟩
set_option maxRecDepth 100000 in
theorem pz_k93 : pz_kok 93 := ⟨by decide +kernel, rfl, ⟨by decide +kernel, by decide +kernel⟩, by decide +kernel, by decide +kernel, pz_at 807 rfl rfl, pz_at 94 rfl rfl, (fun h => by cases h), fun _ => ⟨pz_at 806 rfl rfl, by decide +kernel⟩⟩
set_option maxRecDepth 100000 in
theorem pz_k94 : pz_kok 94 := ⟨by decide +kernel, rfl, ⟨by decide +kernel, by decide +kernel⟩, by decide +kernel, by decide +kernel, pz_at 772 rfl rfl, pz_at 94 rfl rfl, fun _ => ⟨pz_at 771 rfl rfl, pz_at 72 rfl rfl, pz_T6, 24, rfl, by decide +kernel⟩, fun h => by cases h⟩
set_option maxRecDepth 100000 in
theorem pz_k95 : pz_kok 95 := ⟨by decide +kernel, rfl, ⟨by decide +kernel, by decide +kernel⟩, by decide +kernel, by decide +kernel, pz_at 776 rfl rfl, pz_at 94 rfl rfl, fun _ => ⟨pz_at 775 rfl rfl, pz_at 73 rfl rfl, pz_T6, 24, rfl, by decide +kernel⟩, fun h => by cases h⟩
set_option maxRecDepth 100000 in
theorem pz_k96 : pz_kok 96 := ⟨by decide +kernel, rfl, ⟨by decide +kernel, by decide +kernel⟩, by decide +kernel, by decide +kernel, pz_at 733 rfl rfl, pz_at 94 rfl rfl, fun _ => ⟨pz_at 732 rfl rfl, pz_at 63 rfl rfl, pz_T6, 24, rfl, by decide +kernel⟩, fun h => by cases h⟩
set_option maxRecDepth 100000 in
theorem pz_k97 : pz_kok 97 := ⟨by decide +kernel, rfl, ⟨by decide +kernel, by decide +kernel⟩, by decide +kernel, by decide +kernel, pz_at 811 rfl rfl, pz_at 94 rfl rfl, fun _ => ⟨pz_at 810 rfl rfl, pz_at 81 rfl rfl, pz_T6, 24, rfl, by decide +kernel⟩, fun h => by cases h⟩
set_option maxRecDepth 100000 in
theorem pz_k98 : pz_kok 98 := ⟨by decide +kernel, rfl, ⟨by decide +kernel, by decide +kernel⟩, by decide +kernel, by decide +kernel, pz_at 761 rfl rfl, pz_at 94 rfl rfl, fun _ => ⟨pz_at 760 rfl rfl, pz_at 70 rfl rfl, pz_T6, 24, rfl, by decide +kernel⟩, fun h => by cases h⟩
set_option maxRecDepth 100000 in
theorem pz_k99 : pz_kok 99 := ⟨by decide +kernel, rfl, ⟨by decide +kernel, by decide +kernel⟩, by decide +kernel, by decide +kernel, pz_at 796 rfl rfl, pz_at 94 rfl rfl, fun _ => ⟨pz_at 795 rfl rfl, pz_at 78 rfl rfl, pz_T6, 24, rfl, by decide +kernel⟩, fun h => by cases h⟩
set_option maxRecDepth 100000 in
theorem pz_k100 : pz_kok 100 := ⟨by decide +kernel, rfl, ⟨by decide +kernel, by decide +kernel⟩, by decide +kernel, by decide +kernel, pz_at 800 rfl rfl, pz_at 94 rfl rfl, fun _ => ⟨pz_at 799 rfl rfl, pz_at 79 rfl rfl, pz_T6, 24, rfl, by decide +kernel⟩, fun h => by cases h⟩
set_option maxRecDepth 100000 in
theorem pz_k101 : pz_kok 101 := ⟨by decide +kernel, rfl, ⟨by decide +kernel, by decide +kernel⟩, by decide +kernel, by decide +kernel, pz_at 804 rfl rfl, pz_at 94 rfl rfl, fun _ => ⟨pz_at 803 rfl rfl, pz_at 80 rfl rfl, pz_T6, 24, rfl, by decide +kernel⟩, fun h => by cases h⟩
set_option maxRecDepth 100000 in
theorem pz_k102 : pz_kok 102 := ⟨by decide +kernel, rfl, ⟨by decide +kernel, by decide +kernel⟩, by decide +kernel, by decide +kernel, pz_at 792 rfl rfl, pz_at 94 rfl rfl, fun _ => ⟨pz_at 791 rfl rfl, pz_at 77 rfl rfl, pz_T6, 24, rfl, by decide +kernel⟩, fun h => by cases h⟩
set_option maxRecDepth 100000 in
theorem pz_k103 : pz_kok 103 := ⟨by decide +kernel, rfl, ⟨by decide +kernel, by decide +kernel⟩, by decide +kernel, by decide +kernel, pz_at 788 rfl rfl, pz_at 94 rfl rfl, fun _ => ⟨pz_at 787 rfl rfl, pz_at 76 rfl rfl, pz_T6, 24, rfl, by decide +kernel⟩, fun h => by cases h⟩
set_option maxRecDepth 100000 in
theorem pz_k104 : pz_kok 104 := ⟨by decide +kernel, rfl, ⟨by decide +kernel, by decide +kernel⟩, by decide +kernel, by decide +kernel, pz_at 815 rfl rfl, pz_at 94 rfl rfl, fun _ => ⟨pz_at 814 rfl rfl, pz_at 82 rfl rfl, pz_T6, 24, rfl, by decide +kernel⟩, fun h => by cases h⟩
set_option maxRecDepth 100000 in
theorem pz_k105 : pz_kok 105 := ⟨by decide +kernel, rfl, ⟨by decide +kernel, by decide +kernel⟩, by decide +kernel, by decide +kernel, pz_at 839 rfl rfl, pz_at 94 rfl rfl, fun _ => ⟨pz_at 838 rfl rfl, pz_at 86 rfl rfl, pz_T6, 24, rfl, by decide +kernel⟩, fun h => by cases h⟩
set_option maxRecDepth 100000 in
theorem pz_k106 : pz_kok 106 := ⟨by decide +kernel, rfl, ⟨by decide +kernel, by decide +kernel⟩, by decide +kernel, by decide +kernel, pz_at 768 rfl rfl, pz_at 94 rfl rfl, fun _ => ⟨pz_at 767 rfl rfl, pz_at 71 rfl rfl, pz_T6, 24, rfl, by decide +kernel⟩, fun h => by cases h⟩
set_option maxRecDepth 100000 in
theorem pz_k107 : pz_kok 107 := ⟨by decide +kernel, rfl, ⟨by decide +kernel, by decide +kernel⟩, by decide +kernel, by decide +kernel, pz_at 757 rfl rfl, pz_at 94 rfl rfl, fun _ => ⟨pz_at 756 rfl rfl, pz_at 69 rfl rfl, pz_T6, 24, rfl, by decide +kernel⟩, fun h => by cases h⟩
set_option maxRecDepth 100000 in
theorem pz_k108 : pz_kok 108 := ⟨by decide +kernel, rfl, ⟨by decide +kernel, by decide +kernel⟩, by decide +kernel, by decide +kernel, pz_at 749 rfl rfl, pz_at 94 rfl rfl, fun _ => ⟨pz_at 748 rfl rfl, pz_at 67 rfl rfl, pz_T6, 24, rfl, by decide +kernel⟩, fun h => by cases h⟩
set_option maxRecDepth 100000 in
theorem pz_k109 : pz_kok 109 := ⟨by decide +kernel, rfl, ⟨by decide +kernel, by decide +kernel⟩, by decide +kernel, by decide +kernel, pz_at 780 rfl rfl, pz_at 94 rfl rfl, fun _ => ⟨pz_at 779 rfl rfl, pz_at 74 rfl rfl, pz_T6, 24, rfl, by decide +kernel⟩, fun h => by cases h⟩
set_option maxRecDepth 100000 in
theorem pz_k110 : pz_kok 110 := ⟨by decide +kernel, rfl, ⟨by decide +kernel, by decide +kernel⟩, by decide +kernel, by decide +kernel, pz_at 745 rfl rfl, pz_at 94 rfl rfl, fun _ => ⟨pz_at 744 rfl rfl, pz_at 66 rfl rfl, pz_T6, 24, rfl, by decide +kernel⟩, fun h => by cases h⟩
set_option maxRecDepth 100000 in
theorem pz_k111 : pz_kok 111 := ⟨by decide +kernel, rfl, ⟨by decide +kernel, by decide +kernel⟩, by decide +kernel, by decide +kernel, pz_at 819 rfl rfl, pz_at 94 rfl rfl, fun _ => ⟨pz_at 818 rfl rfl, pz_at 83 rfl rfl, pz_T6, 24, rfl, by decide +kernel⟩, fun h => by cases h⟩
set_option maxRecDepth 100000 in
theorem pz_k112 : pz_kok 112 := ⟨by decide +kernel, rfl, ⟨by decide +kernel, by decide +kernel⟩, by decide +kernel, by decide +kernel, pz_at 823 rfl rfl, pz_at 94 rfl rfl, fun _ => ⟨pz_at 822 rfl rfl, pz_at 84 rfl rfl, pz_T6, 24, rfl, by decide +kernel⟩, fun h => by cases h⟩
set_option maxRecDepth 100000 in
theorem pz_k113 : pz_kok 113 := ⟨by decide +kernel, rfl, ⟨by decide +kernel, by decide +kernel⟩, by decide +kernel, by decide +kernel, pz_at 741 rfl rfl, pz_at 94 rfl rfl, fun _ => ⟨pz_at 740 rfl rfl, pz_at 65 rfl rfl, pz_T6, 24, rfl, by decide +kernel⟩, fun h => by cases h⟩
set_option maxRecDepth 100000 in
theorem pz_k114 : pz_kok 114 := ⟨by decide +kernel, rfl, ⟨by decide +kernel, by decide +kernel⟩, by decide +kernel, by decide +kernel, pz_at 729 rfl rfl, pz_at 94 rfl rfl, fun _ => ⟨pz_at 727 rfl rfl, pz_at 728 rfl rfl, pz_T6, 24, rfl, by decide +kernel⟩, fun h => by cases h⟩
set_option maxRecDepth 100000 in
theorem pz_k115 : pz_kok 115 := ⟨by decide +kernel, rfl, ⟨by decide +kernel, by decide +kernel⟩, by decide +kernel, by decide +kernel, pz_at 827 rfl rfl, pz_at 94 rfl rfl, fun _ => ⟨pz_at 825 rfl rfl, pz_at 826 rfl rfl, pz_T6, 24, rfl, by decide +kernel⟩, fun h => by cases h⟩
set_option maxRecDepth 100000 in
theorem pz_k116 : pz_kok 116 := ⟨by decide +kernel, rfl, ⟨by decide +kernel, by decide +kernel⟩, by decide +kernel, by decide +kernel, pz_at 835 rfl rfl, pz_at 94 rfl rfl, fun _ => ⟨pz_at 834 rfl rfl, pz_at 85 rfl rfl, pz_T6, 24, rfl, by decide +kernel⟩, fun h => by cases h⟩
set_option maxRecDepth 100000 in
theorem pz_k117 : pz_kok 117 := ⟨by decide +kernel, rfl, ⟨by decide +kernel, by decide +kernel⟩, by decide +kernel, by decide +kernel, pz_at 831 rfl rfl, pz_at 94 rfl rfl, fun _ => ⟨pz_at 829 rfl rfl, pz_at 830 rfl rfl, pz_T6, 24, rfl, by decide +kernel⟩, fun h => by cases h⟩
set_option maxRecDepth 100000 in
theorem pz_k118 : pz_kok 118 := ⟨by decide +kernel, rfl, ⟨by decide +kernel, by decide +kernel⟩, by decide +kernel, by decide +kernel, pz_at 843 rfl rfl, pz_at 94 rfl rfl, fun _ => ⟨pz_at 841 rfl rfl, pz_at 842 rfl rfl, pz_T6, 24, rfl, by decide +kernel⟩, fun h => by cases h⟩
set_option maxRecDepth 100000 in
theorem pz_k119 : pz_kok 119 := ⟨by decide +kernel, rfl, ⟨by decide +kernel, by decide +kernel⟩, by decide +kernel, by decide +kernel, pz_at 853 rfl rfl, pz_at 94 rfl rfl, fun _ => ⟨pz_at 851 rfl rfl, pz_at 852 rfl rfl, pz_T6, 24, rfl, by decide +kernel⟩, fun h => by cases h⟩
set_option maxRecDepth 100000 in
theorem pz_k120 : pz_kok 120 := ⟨by decide +kernel, rfl, ⟨by decide +kernel, by decide +kernel⟩, by decide +kernel, by decide +kernel, pz_at 857 rfl rfl, pz_at 94 rfl rfl, fun _ => ⟨pz_at 855 rfl rfl, pz_at 856 rfl rfl, pz_T6, 24, rfl, by decide +kernel⟩, fun h => by cases h⟩
set_option maxRecDepth 100000 in
theorem pz_k121 : pz_kok 121 := ⟨by decide +kernel, rfl, ⟨by decide +kernel, by decide +kernel⟩, by decide +kernel, by decide +kernel, pz_at 861 rfl rfl, pz_at 94 rfl rfl, fun _ => ⟨pz_at 859 rfl rfl, pz_at 860 rfl rfl, pz_T6, 24, rfl, by decide +kernel⟩, fun h => by cases h⟩
set_option maxRecDepth 100000 in
theorem pz_k122 : pz_kok 122 := ⟨by decide +kernel, rfl, ⟨by decide +kernel, by decide +kernel⟩, by decide +kernel, by decide +kernel, pz_at 865 rfl rfl, pz_at 94 rfl rfl, fun _ => ⟨pz_at 863 rfl rfl, pz_at 864 rfl rfl, pz_T6, 24, rfl, by decide +kernel⟩, fun h => by cases h⟩
set_option maxRecDepth 100000 in
theorem pz_k123 : pz_kok 123 := ⟨by decide +kernel, rfl, ⟨by decide +kernel, by decide +kernel⟩, by decide +kernel, by decide +kernel, pz_at 869 rfl rfl, pz_at 94 rfl rfl, fun _ => ⟨pz_at 867 rfl rfl, pz_at 868 rfl rfl, pz_T6, 24, rfl, by decide +kernel⟩, fun h => by cases h⟩
set_option maxRecDepth 100000 in
theorem pz_k124 : pz_kok 124 := ⟨by decide +kernel, rfl, ⟨by decide +kernel, by decide +kernel⟩, by decide +kernel, by decide +kernel, pz_at 873 rfl rfl, pz_at 94 rfl rfl, fun _ => ⟨pz_at 871 rfl rfl, pz_at 872 rfl rfl, pz_T6, 24, rfl, by decide +kernel⟩, fun h => by cases h⟩
set_option maxRecDepth 100000 in
theorem pz_k125 : pz_kok 125 := ⟨by decide +kernel, rfl, ⟨by decide +kernel, by decide +kernel⟩, by decide +kernel, by decide +kernel, pz_at 877 rfl rfl, pz_at 94 rfl rfl, fun _ => ⟨pz_at 875 rfl rfl, pz_at 876 rfl rfl, pz_T6, 24, rfl, by decide +kernel⟩, fun h => by cases h⟩
set_option maxRecDepth 100000 in
theorem pz_k126 : pz_kok 126 := ⟨by decide +kernel, rfl, ⟨by decide +kernel, by decide +kernel⟩, by decide +kernel, by decide +kernel, pz_at 881 rfl rfl, pz_at 94 rfl rfl, fun _ => ⟨pz_at 879 rfl rfl, pz_at 880 rfl rfl, pz_T6, 24, rfl, by decide +kernel⟩, fun h => by cases h⟩
set_option maxRecDepth 100000 in
theorem pz_k127 : pz_kok 127 := ⟨by decide +kernel, rfl, ⟨by decide +kernel, by decide +kernel⟩, by decide +kernel, by decide +kernel, pz_at 885 rfl rfl, pz_at 94 rfl rfl, fun _ => ⟨pz_at 883 rfl rfl, pz_at 884 rfl rfl, pz_T6, 24, rfl, by decide +kernel⟩, fun h => by cases h⟩
set_option maxRecDepth 100000 in
theorem pz_k128 : pz_kok 128 := ⟨by decide +kernel, rfl, ⟨by decide +kernel, by decide +kernel⟩, by decide +kernel, by decide +kernel, pz_at 889 rfl rfl, pz_at 94 rfl rfl, fun _ => ⟨pz_at 887 rfl rfl, pz_at 888 rfl rfl, pz_T6, 24, rfl, by decide +kernel⟩, fun h => by cases h⟩
def pz_ks : List Nat := [1, 2, 3, 4, 5, 6, 7, 8, 9, 10, 11, 12, 13, 14, 15, 16, 17, 18, 19, 20, 21, 22, 23, 24, 25, 26, 27, 28, 29, 30, 31, 32, 33, 34, 36, 37, 38, 39, 40, 41, 42, 43, 44, 45, 46, 47, 49, 50, 51, 52, 53, 54, 55, 56, 57, 58, 59, 60, 61, 62, 63, 65, 66, 67, 68, 69, 70, 71, 73, 74, 75, 76, 77, 78, 79, 81, 82, 83, 84, 85, 87, 88, 89, 90, 91, 92, 93, 94, 95, 96, 97, 98, 99, 100, 101, 102, 103, 104, 105, 106, 107, 108, 109, 110, 111, 112, 113, 114, 115, 116, 117, 118, 119, 120, 121, 122, 123, 124, 125, 126, 127, 128]
theorem pz_kall : ∀ k ∈ pz_ks, pz_kok k := List.forall_mem_cons.mpr ⟨pz_k1, List.forall_mem_cons.mpr ⟨pz_k2, List.forall_mem_cons.mpr ⟨pz_k3, List.forall_mem_cons.mpr ⟨pz_k4, List.forall_mem_cons.mpr ⟨pz_k5, List.forall_mem_cons.mpr ⟨pz_k6, List.forall_mem_cons.mpr ⟨pz_k7, List.forall_mem_cons.mpr ⟨pz_k8, List.forall_mem_cons.mpr ⟨pz_k9, List.forall_mem_cons.mpr ⟨pz_k10, List.forall_mem_cons.mpr ⟨pz_k11, List.forall_mem_cons.mpr ⟨pz_k12, List.forall_mem_cons.mpr ⟨pz_k13, List.forall_mem_cons.mpr ⟨pz_k14, List.forall_mem_cons.mpr ⟨pz_k15, List.forall_mem_cons.mpr ⟨pz_k16, List.forall_mem_cons.mpr ⟨pz_k17, List.forall_mem_cons.mpr ⟨pz_k18, List.forall_mem_cons.mpr ⟨pz_k19, List.forall_mem_cons.mpr ⟨pz_k20, List.forall_mem_cons.mpr ⟨pz_k21, List.forall_mem_cons.mpr ⟨pz_k22, List.forall_mem_cons.mpr ⟨pz_k23, List.forall_mem_cons.mpr ⟨pz_k24, List.forall_mem_cons.mpr ⟨pz_k25, List.forall_mem_cons.mpr ⟨pz_k26, List.forall_mem_cons.mpr ⟨pz_k27, List.forall_mem_cons.mpr ⟨pz_k28, List.forall_mem_cons.mpr ⟨pz_k29, List.forall_mem_cons.mpr ⟨pz_k30, List.forall_mem_cons.mpr ⟨pz_k31, List.forall_mem_cons.mpr ⟨pz_k32, List.forall_mem_cons.mpr ⟨pz_k33, List.forall_mem_cons.mpr ⟨pz_k34, List.forall_mem_cons.mpr ⟨pz_k36, List.forall_mem_cons.mpr ⟨pz_k37, List.forall_mem_cons.mpr ⟨pz_k38, List.forall_mem_cons.mpr ⟨pz_k39, List.forall_mem_cons.mpr ⟨pz_k40, List.forall_mem_cons.mpr ⟨pz_k41, List.forall_mem_cons.mpr ⟨pz_k42, List.forall_mem_cons.mpr ⟨pz_k43, List.forall_mem_cons.mpr ⟨pz_k44, List.forall_mem_cons.mpr ⟨pz_k45, List.forall_mem_cons.mpr ⟨pz_k46, List.forall_mem_cons.mpr ⟨pz_k47, List.forall_mem_cons.mpr ⟨pz_k49, List.forall_mem_cons.mpr ⟨pz_k50, List.forall_mem_cons.mpr ⟨pz_k51, List.forall_mem_cons.mpr ⟨pz_k52, List.forall_mem_cons.mpr ⟨pz_k53, List.forall_mem_cons.mpr ⟨pz_k54, List.forall_mem_cons.mpr ⟨pz_k55, List.forall_mem_cons.mpr ⟨pz_k56, List.forall_mem_cons.mpr ⟨pz_k57, List.forall_mem_cons.mpr ⟨pz_k58, List.forall_mem_cons.mpr ⟨pz_k59, List.forall_mem_cons.mpr ⟨pz_k60, List.forall_mem_cons.mpr ⟨pz_k61, List.forall_mem_cons.mpr ⟨pz_k62, List.forall_mem_cons.mpr ⟨pz_k63, List.forall_mem_cons.mpr ⟨pz_k65, List.forall_mem_cons.mpr ⟨pz_k66, List.forall_mem_cons.mpr ⟨pz_k67, List.forall_mem_cons.mpr ⟨pz_k68, List.forall_mem_cons.mpr ⟨pz_k69, List.forall_mem_cons.mpr ⟨pz_k70, List.forall_mem_cons.mpr ⟨pz_k71, List.forall_mem_cons.mpr ⟨pz_k73, List.forall_mem_cons.mpr ⟨pz_k74, List.forall_mem_cons.mpr ⟨pz_k75, List.forall_mem_cons.mpr ⟨pz_k76, List.forall_mem_cons.mpr ⟨pz_k77, List.forall_mem_cons.mpr ⟨pz_k78, List.forall_mem_cons.mpr ⟨pz_k79, List.forall_mem_cons.mpr ⟨pz_k81, List.forall_mem_cons.mpr ⟨pz_k82, List.forall_mem_cons.mpr ⟨pz_k83, List.forall_mem_cons.mpr ⟨pz_k84, List.forall_mem_cons.mpr ⟨pz_k85, List.forall_mem_cons.mpr ⟨pz_k87, List.forall_mem_cons.mpr ⟨pz_k88, List.forall_mem_cons.mpr ⟨pz_k89, List.forall_mem_cons.mpr ⟨pz_k90, List.forall_mem_cons.mpr ⟨pz_k91, List.forall_mem_cons.mpr ⟨pz_k92, List.forall_mem_cons.mpr ⟨pz_k93, List.forall_mem_cons.mpr ⟨pz_k94, List.forall_mem_cons.mpr ⟨pz_k95, List.forall_mem_cons.mpr ⟨pz_k96, List.forall_mem_cons.mpr ⟨pz_k97, List.forall_mem_cons.mpr ⟨pz_k98, List.forall_mem_cons.mpr ⟨pz_k99, List.forall_mem_cons.mpr ⟨pz_k100, List.forall_mem_cons.mpr ⟨pz_k101, List.forall_mem_cons.mpr ⟨pz_k102, List.forall_mem_cons.mpr ⟨pz_k103, List.forall_mem_cons.mpr ⟨pz_k104, List.forall_mem_cons.mpr ⟨pz_k105, List.forall_mem_cons.mpr ⟨pz_k106, List.forall_mem_cons.mpr ⟨pz_k107, List.forall_mem_cons.mpr ⟨pz_k108, List.forall_mem_cons.mpr ⟨pz_k109, List.forall_mem_cons.mpr ⟨pz_k110, List.forall_mem_cons.mpr ⟨pz_k111, List.forall_mem_cons.mpr ⟨pz_k112, List.forall_mem_cons.mpr ⟨pz_k113, List.forall_mem_cons.mpr ⟨pz_k114, List.forall_mem_cons.mpr ⟨pz_k115, List.forall_mem_cons.mpr ⟨pz_k116, List.forall_mem_cons.mpr ⟨pz_k117, List.forall_mem_cons.mpr ⟨pz_k118, List.forall_mem_cons.mpr ⟨pz_k119, List.forall_mem_cons.mpr ⟨pz_k120, List.forall_mem_cons.mpr ⟨pz_k121, List.forall_mem_cons.mpr ⟨pz_k122, List.forall_mem_cons.mpr ⟨pz_k123, List.forall_mem_cons.mpr ⟨pz_k124, List.forall_mem_cons.mpr ⟨pz_k125, List.forall_mem_cons.mpr ⟨pz_k126, List.forall_mem_cons.mpr ⟨pz_k127, List.forall_mem_cons.mpr ⟨pz_k128, fun _ h => absurd h List.not_mem_nil⟩⟩⟩⟩⟩⟩⟩⟩⟩⟩⟩⟩⟩⟩⟩⟩⟩⟩⟩⟩⟩⟩⟩⟩⟩⟩⟩⟩⟩⟩⟩⟩⟩⟩⟩⟩⟩⟩⟩⟩⟩⟩⟩⟩⟩⟩⟩⟩⟩⟩⟩⟩⟩⟩⟩⟩⟩⟩⟩⟩⟩⟩⟩⟩⟩⟩⟩⟩⟩⟩⟩⟩⟩⟩⟩⟩⟩⟩⟩⟩⟩⟩⟩⟩⟩⟩⟩⟩⟩⟩⟩⟩⟩⟩⟩⟩⟩⟩⟩⟩⟩⟩⟩⟩⟩⟩⟩⟩⟩⟩⟩⟩⟩⟩⟩⟩⟩⟩⟩⟩⟩⟩
theorem pz_mls_in : pz_mls.all (fun e => pz_ks.contains e.2.2.1) = true := by decide +kernel
theorem pz_mth_ok {kc idx k : Nat} (h : pz_mth kc idx = some k) : (Jvm.Cond.methodLink (pz_on kc) idx (pz_y k) ∈ pz_ws ∨ ∃ host, Jvm.Cond.methodLinkNest (pz_on kc) idx (pz_y k) host ∈ pz_nw) ∧ pz_kok k := by
  unfold pz_mth at h
  obtain ⟨e, he, h2⟩ := Option.map_eq_some_iff.mp h
  have hm := List.mem_of_find?_eq_some he
  have hp := List.find?_some he
  obtain ⟨e1, e2, e3, e4⟩ := e
  simp only [Bool.and_eq_true, beq_iff_eq] at hp
  obtain ⟨rfl, rfl⟩ := hp
  dsimp only at h2
  subst h2
  have hc := List.all_eq_true.mp pz_mck_all _ hm
  have hi := List.all_eq_true.mp pz_mls_in _ hm
  simp only [List.contains_iff_mem] at hi
  refine ⟨?_, pz_kall _ hi⟩
  unfold pz_mck at hc
  simp only [Bool.or_eq_true, decide_eq_true_eq] at hc
  rcases hc with h3 | h3
  · exact Or.inl (pz_at _ h3 rfl)
  · exact Or.inr ⟨_, pz_atn _ h3 rfl⟩
def pz_mx (kc idx : Nat) : Bool := kc == 2 && idx == 44
set_option maxRecDepth 100000 in
theorem pz_mx_ok {kc idx : Nat} (h : pz_mx kc idx = true) : Jvm.Cond.methodLink (pz_on kc) idx Lib.Math.max.name ∈ pz_ws ∧ Jvm.Cond.static Lib.Math.max.name ∈ pz_ws ∧ Jvm.Cond.initialized "java/lang/Math" ∈ pz_ws ∧ Jvm.Cond.code Lib.Math.max.name Lib.Math.max.code 2 (some .int) ∈ pz_ws := by
  unfold pz_mx at h
  simp only [Bool.and_eq_true, beq_iff_eq] at h
  obtain ⟨rfl, rfl⟩ := h
  exact ⟨pz_at 477 rfl rfl, pz_at 478 rfl rfl, pz_at 95 rfl rfl, pz_at 479 rfl rfl⟩
def pz_mn (kc idx : Nat) : Bool := kc == 2 && idx == 50
set_option maxRecDepth 100000 in
theorem pz_mn_ok {kc idx : Nat} (h : pz_mn kc idx = true) : Jvm.Cond.methodLink (pz_on kc) idx Lib.Math.min.name ∈ pz_ws ∧ Jvm.Cond.static Lib.Math.min.name ∈ pz_ws ∧ Jvm.Cond.initialized "java/lang/Math" ∈ pz_ws ∧ Jvm.Cond.code Lib.Math.min.name Lib.Math.min.code 2 (some .int) ∈ pz_ws := by
  unfold pz_mn at h
  simp only [Bool.and_eq_true, beq_iff_eq] at h
  obtain ⟨rfl, rfl⟩ := h
  exact ⟨pz_at 480 rfl rfl, pz_at 481 rfl rfl, pz_at 95 rfl rfl, pz_at 482 rfl rfl⟩
theorem pz_ty_r {dA : Nat → ClassId} {t : Nat} (h : t = 2 ∨ t = 3 ∨ t = 4 ∨ t = 5) : ∃ C, (pz_ty dA)[t]? = some (dA t, .object C) := by
  rcases h with rfl | rfl | rfl | rfl
  · exact ⟨_, rfl⟩
  · exact ⟨_, rfl⟩
  · exact ⟨_, rfl⟩
  · exact ⟨_, rfl⟩
theorem pz_ty_s {dA : Nat → ClassId} {ci : Nat} {r : vw_C} (h : pz_ct ci < 6) (hr : pz_cs[ci]? = some r) : (pz_ty dA)[pz_ct ci]? = some (dA (pz_ct ci), .object r.1) := by
  rcases pz_cs_at hr with ⟨rfl, rfl⟩ | ⟨rfl, rfl⟩ | ⟨rfl, rfl⟩ | ⟨rfl, rfl⟩ | ⟨rfl, rfl⟩ | ⟨rfl, rfl⟩ | ⟨rfl, rfl⟩
  · exact absurd h (by decide)
  · rfl
  · rfl
  · rfl
  · exact absurd h (by decide)
  · rfl
  · exact absurd h (by decide)
end
section
/-! the pure machine: cells by address; a step as a function; a run as a least predicate; its laws -/
abbrev pz_F : Type := Nat → Option va_E
def pz_up (f : pz_F) (a : Nat) (e : va_E) : pz_F := fun b => if b = a then some e else f b
theorem pz_up_s (f : pz_F) (a : Nat) (e : va_E) : pz_up f a e a = some e := by simp [pz_up]
theorem pz_up_n (f : pz_F) {a b : Nat} (e : va_E) (h : b ≠ a) : pz_up f a e b = f b := by simp [pz_up, h]
abbrev pz_S : Type := Nat × List Value × List Value × pz_F
abbrev pz_A : Type := pz_S ⊕ (Nat × List Value × List Value) ⊕ Option Value
/-- a field is read -/
def pz_gf (f : pz_F) (a ci j : Nat) : Option Value := match f a with
  | some (.inr o) => if o.1 = ci then o.2[j]? else none
  | _ => none
theorem pz_gf_inv {f : pz_F} {a ci j : Nat} {v : Value} (h : pz_gf f a ci j = some v) : ∃ fs, f a = some (.inr (ci, fs)) ∧ fs[j]? = some v := by
  unfold pz_gf at h
  split at h
  · rename_i o ho
    split at h
    · rename_i hc
      obtain ⟨o1, o2⟩ := o
      subst hc
      exact ⟨o2, ho, h⟩
    · cases h
  · cases h
/-- is it an object of that number -/
def pz_gu (f : pz_F) (a ci : Nat) : Option Unit := match f a with
  | some (.inr o) => if o.1 = ci then some () else none
  | _ => none
theorem pz_gu_inv {f : pz_F} {a ci : Nat} {v : Unit} (h : pz_gu f a ci = some v) : ∃ fs, f a = some (.inr (ci, fs)) := by
  unfold pz_gu at h
  split at h
  · rename_i o ho
    split at h
    · rename_i hc
      obtain ⟨o1, o2⟩ := o
      subst hc
      exact ⟨o2, ho⟩
    · cases h
  · cases h
/-- a field is written -/
def pz_pf (f : pz_F) (a ci j : Nat) (v : Value) : Option pz_F := match f a with
  | some (.inr o) => if o.1 = ci ∧ j < o.2.length then some (pz_up f a (.inr (ci, o.2.set j v))) else none
  | _ => none
theorem pz_pf_inv {f f' : pz_F} {a ci j : Nat} {v : Value} (h : pz_pf f a ci j v = some f') : ∃ fs, f a = some (.inr (ci, fs)) ∧ j < fs.length ∧ f' = pz_up f a (.inr (ci, fs.set j v)) := by
  unfold pz_pf at h
  split at h
  · rename_i o ho
    split at h
    · rename_i hc
      obtain ⟨o1, o2⟩ := o
      obtain ⟨h1, h2⟩ := hc
      dsimp only at h1 h2 ho h
      subst h1
      exact ⟨o2, ho, h2, (Option.some.inj h).symm⟩
    · cases h
  · cases h
/-- an array of ints (or booleans) -/
def pz_il (cA : ClassId) (f : pz_F) (a : Nat) (i : Int32) : Option Int32 := match f a with
  | some (.inl (c, n, .inl g)) => if c = cA ∧ ¬ (i < 0 ∨ n ≤ i.toNatClampNeg) then some (g i.toNatClampNeg) else none
  | _ => none
theorem pz_il_inv {cA : ClassId} {f : pz_F} {a : Nat} {i v : Int32} (h : pz_il cA f a i = some v) : ∃ n g, f a = some (.inl (cA, n, .inl g)) ∧ vp_in i n ∧ g i.toNatClampNeg = v := by
  unfold pz_il at h
  split at h
  · rename_i c n g ho
    split at h
    · rename_i hc
      obtain ⟨h1, h2⟩ := hc
      subst h1
      exact ⟨n, g, ho, h2, Option.some.inj h⟩
    · cases h
  · cases h
def pz_is (cA : ClassId) (f : pz_F) (a : Nat) (i x : Int32) : Option pz_F := match f a with
  | some (.inl (c, n, .inl g)) => if c = cA ∧ ¬ (i < 0 ∨ n ≤ i.toNatClampNeg) then some (pz_up f a (.inl (cA, n, .inl (upd g i.toNatClampNeg x)))) else none
  | _ => none
theorem pz_is_inv {cA : ClassId} {f f' : pz_F} {a : Nat} {i x : Int32} (h : pz_is cA f a i x = some f') : ∃ n g, f a = some (.inl (cA, n, .inl g)) ∧ vp_in i n ∧ f' = pz_up f a (.inl (cA, n, .inl (upd g i.toNatClampNeg x))) := by
  unfold pz_is at h
  split at h
  · rename_i c n g ho
    split at h
    · rename_i hc
      obtain ⟨h1, h2⟩ := hc
      subst h1
      exact ⟨n, g, ho, h2, (Option.some.inj h).symm⟩
    · cases h
  · cases h
/-- an array of references -/
def pz_rl (dA : Nat → ClassId) (f : pz_F) (a : Nat) (i : Int32) : Option Value := match f a with
  | some (.inl (c, n, .inr (.inr (.inr (.inr g))))) => if (c = dA 2 ∨ c = dA 3 ∨ c = dA 4 ∨ c = dA 5) ∧ ¬ (i < 0 ∨ n ≤ i.toNatClampNeg) then some (va_rf (g i.toNatClampNeg)) else none
  | _ => none
theorem pz_rl_inv {dA : Nat → ClassId} {f : pz_F} {a : Nat} {i : Int32} {v : Value} (h : pz_rl dA f a i = some v) : ∃ t n g, (t = 2 ∨ t = 3 ∨ t = 4 ∨ t = 5) ∧ f a = some (.inl (dA t, n, .inr (.inr (.inr (.inr g))))) ∧ vp_in i n ∧ va_rf (g i.toNatClampNeg) = v := by
  unfold pz_rl at h
  split at h
  · rename_i c n g ho
    split at h
    · rename_i hc
      obtain ⟨h1, h2⟩ := hc
      rcases h1 with h1 | h1 | h1 | h1
      · exact ⟨2, n, g, Or.inl rfl, by rw [ho, h1], h2, Option.some.inj h⟩
      · exact ⟨3, n, g, Or.inr (Or.inl rfl), by rw [ho, h1], h2, Option.some.inj h⟩
      · exact ⟨4, n, g, Or.inr (Or.inr (Or.inl rfl)), by rw [ho, h1], h2, Option.some.inj h⟩
      · exact ⟨5, n, g, Or.inr (Or.inr (Or.inr rfl)), by rw [ho, h1], h2, Option.some.inj h⟩
    · cases h
  · cases h
def pz_rs (dA : Nat → ClassId) (f : pz_F) (a : Nat) (i : Int32) (q : Nat) : Option pz_F := match f a, f q with
  | some (.inl (c, n, .inr (.inr (.inr (.inr g))))), some (.inr o) => if (pz_ct o.1 < 6 ∧ c = dA (pz_ct o.1)) ∧ ¬ (i < 0 ∨ n ≤ i.toNatClampNeg) then some (pz_up f a (.inl (c, n, .inr (.inr (.inr (.inr (va_up g i.toNatClampNeg (some q)))))))) else none
  | _, _ => none
theorem pz_rs_inv {dA : Nat → ClassId} {f f' : pz_F} {a q : Nat} {i : Int32} (h : pz_rs dA f a i q = some f') : ∃ n g ci fs, pz_ct ci < 6 ∧ f a = some (.inl (dA (pz_ct ci), n, .inr (.inr (.inr (.inr g))))) ∧ f q = some (.inr (ci, fs)) ∧ vp_in i n ∧ f' = pz_up f a (.inl (dA (pz_ct ci), n, .inr (.inr (.inr (.inr (va_up g i.toNatClampNeg (some q))))))) := by
  unfold pz_rs at h
  split at h
  · rename_i c n g o ho hq
    split at h
    · rename_i hc
      obtain ⟨⟨h0, h1⟩, h2⟩ := hc
      obtain ⟨o1, o2⟩ := o
      subst h1
      exact ⟨n, g, o1, o2, h0, ho, hq, h2, (Option.some.inj h).symm⟩
    · cases h
  · cases h
/-! shapes of the stack and of the locals -/
def pz_g1 {β : Type} (n m : Nat) (z : Option β) : Option β := if n = m then z else none
theorem pz_g1_inv {β : Type} {n m : Nat} {z : Option β} {y : β} (h : pz_g1 n m z = some y) : n = m ∧ z = some y := by
  unfold pz_g1 at h
  split at h
  · exact ⟨by assumption, h⟩
  · cases h
def pz_sv {β : Type} (st : List Value) (K : Value → List Value → Option β) : Option β := match st with
  | v :: r => K v r
  | _ => none
theorem pz_sv_inv {β : Type} {st : List Value} {K : Value → List Value → Option β} {z : β} (h : pz_sv st K = some z) : ∃ v r, st = v :: r ∧ K v r = some z := by
  unfold pz_sv at h
  split at h
  · exact ⟨_, _, rfl, h⟩
  · cases h
def pz_si {β : Type} (st : List Value) (K : Int32 → List Value → Option β) : Option β := match st with
  | .int x :: r => K x r
  | _ => none
theorem pz_si_inv {β : Type} {st : List Value} {K : Int32 → List Value → Option β} {z : β} (h : pz_si st K = some z) : ∃ x r, st = .int x :: r ∧ K x r = some z := by
  unfold pz_si at h
  split at h
  · exact ⟨_, _, rfl, h⟩
  · cases h
def pz_sii {β : Type} (st : List Value) (K : Int32 → Int32 → List Value → Option β) : Option β := match st with
  | .int y :: .int x :: r => K x y r
  | _ => none
theorem pz_sii_inv {β : Type} {st : List Value} {K : Int32 → Int32 → List Value → Option β} {z : β} (h : pz_sii st K = some z) : ∃ x y r, st = .int y :: .int x :: r ∧ K x y r = some z := by
  unfold pz_sii at h
  split at h
  · exact ⟨_, _, _, rfl, h⟩
  · cases h
def pz_sr {β : Type} (st : List Value) (K : Nat → List Value → Option β) : Option β := match st with
  | .ref a :: r => K a r
  | _ => none
theorem pz_sr_inv {β : Type} {st : List Value} {K : Nat → List Value → Option β} {z : β} (h : pz_sr st K = some z) : ∃ a r, st = .ref a :: r ∧ K a r = some z := by
  unfold pz_sr at h
  split at h
  · exact ⟨_, _, rfl, h⟩
  · cases h
def pz_svv {β : Type} (st : List Value) (K : Value → Value → List Value → Option β) : Option β := match st with
  | v :: w :: r => K v w r
  | _ => none
theorem pz_svv_inv {β : Type} {st : List Value} {K : Value → Value → List Value → Option β} {z : β} (h : pz_svv st K = some z) : ∃ v w r, st = v :: w :: r ∧ K v w r = some z := by
  unfold pz_svv at h
  split at h
  · exact ⟨_, _, _, rfl, h⟩
  · cases h
def pz_svr {β : Type} (st : List Value) (K : Value → Nat → List Value → Option β) : Option β := match st with
  | v :: .ref a :: r => K v a r
  | _ => none
theorem pz_svr_inv {β : Type} {st : List Value} {K : Value → Nat → List Value → Option β} {z : β} (h : pz_svr st K = some z) : ∃ v a r, st = v :: .ref a :: r ∧ K v a r = some z := by
  unfold pz_svr at h
  split at h
  · exact ⟨_, _, _, rfl, h⟩
  · cases h
def pz_sir {β : Type} (st : List Value) (K : Int32 → Nat → List Value → Option β) : Option β := match st with
  | .int i :: .ref a :: r => K i a r
  | _ => none
theorem pz_sir_inv {β : Type} {st : List Value} {K : Int32 → Nat → List Value → Option β} {z : β} (h : pz_sir st K = some z) : ∃ i a r, st = .int i :: .ref a :: r ∧ K i a r = some z := by
  unfold pz_sir at h
  split at h
  · exact ⟨_, _, _, rfl, h⟩
  · cases h
def pz_siir {β : Type} (st : List Value) (K : Int32 → Int32 → Nat → List Value → Option β) : Option β := match st with
  | .int x :: .int i :: .ref a :: r => K x i a r
  | _ => none
theorem pz_siir_inv {β : Type} {st : List Value} {K : Int32 → Int32 → Nat → List Value → Option β} {z : β} (h : pz_siir st K = some z) : ∃ x i a r, st = .int x :: .int i :: .ref a :: r ∧ K x i a r = some z := by
  unfold pz_siir at h
  split at h
  · exact ⟨_, _, _, _, rfl, h⟩
  · cases h
def pz_srir {β : Type} (st : List Value) (K : Nat → Int32 → Nat → List Value → Option β) : Option β := match st with
  | .ref q :: .int i :: .ref a :: r => K q i a r
  | _ => none
theorem pz_srir_inv {β : Type} {st : List Value} {K : Nat → Int32 → Nat → List Value → Option β} {z : β} (h : pz_srir st K = some z) : ∃ q i a r, st = .ref q :: .int i :: .ref a :: r ∧ K q i a r = some z := by
  unfold pz_srir at h
  split at h
  · exact ⟨_, _, _, _, rfl, h⟩
  · cases h
def pz_li {β : Type} (ls : List Value) (i : Nat) (K : Int32 → Option β) : Option β := match ls[i]? with
  | some (.int x) => K x
  | _ => none
theorem pz_li_inv {β : Type} {ls : List Value} {i : Nat} {K : Int32 → Option β} {z : β} (h : pz_li ls i K = some z) : ∃ x, ls[i]? = some (.int x) ∧ K x = some z := by
  unfold pz_li at h
  split at h
  · rename_i x hx
    exact ⟨x, hx, h⟩
  · cases h
def pz_la {β : Type} (ls : List Value) (i : Nat) (K : Value → Option β) : Option β := match ls[i]? with
  | some (.ref a) => K (.ref a)
  | some .null => K .null
  | _ => none
theorem pz_la_inv {β : Type} {ls : List Value} {i : Nat} {K : Value → Option β} {z : β} (h : pz_la ls i K = some z) : (∃ a, ls[i]? = some (.ref a) ∧ K (.ref a) = some z) ∨ (ls[i]? = some .null ∧ K .null = some z) := by
  unfold pz_la at h
  split at h
  · rename_i a ha
    exact Or.inl ⟨a, ha, h⟩
  · rename_i ha
    exact Or.inr ⟨ha, h⟩
  · cases h
def pz_ra {β : Type} (v : Value) (K : Option β) : Option β := match v with
  | .ref _ => K
  | .null => K
  | _ => none
theorem pz_ra_inv {β : Type} {v : Value} {K : Option β} {z : β} (h : pz_ra v K = some z) : ((∃ a, v = .ref a) ∨ v = .null) ∧ K = some z := by
  unfold pz_ra at h
  split at h
  · exact ⟨Or.inl ⟨_, rfl⟩, h⟩
  · exact ⟨Or.inr rfl, h⟩
  · cases h
def pz_j {β : Type} (pc : Nat) (off : Int) (K : Nat → Option β) : Option β := if (pc : Int) + off = (((pc : Int) + off).toNat : Int) then K ((pc : Int) + off).toNat else none
theorem pz_j_inv {β : Type} {pc : Nat} {off : Int} {K : Nat → Option β} {z : β} (h : pz_j pc off K = some z) : ∃ tgt : Nat, (pc : Int) + off = (tgt : Int) ∧ K tgt = some z := by
  unfold pz_j at h
  split at h
  · exact ⟨_, by assumption, h⟩
  · cases h
def pz_br {β : Type} (c : Jvm.ClassFile.Cond) (x y : Int32) (A B : β) : β := match c with
  | .eq => if x = y then A else B
  | .ne => if x = y then B else A
  | .lt => if x < y then A else B
  | .ge => if y ≤ x then A else B
  | .gt => if y < x then A else B
  | .le => if x ≤ y then A else B
/-- do the values fit the parameters: true an int, false a reference -/
def pz_pk : List Bool → List Value → Bool
  | [], [] => true
  | true :: bs, .int _ :: vs => pz_pk bs vs
  | false :: bs, .ref _ :: vs => pz_pk bs vs
  | _, _ => false
/-- the locals at a method's entry -/
def pz_lc (k : Nat) (as : List Value) : List Value := as ++ List.replicate (pz_n k - as.length) (.retAddr 0)
/-- an instruction's effect -/
def pz_ex (dA : Nat → ClassId) (k pc n : Nat) (ls st : List Value) (f : pz_F) (i : Instr) : Option pz_S := match i with
  | .iconst c => pz_g1 n 1 (some ((pc + 1, ls, .int (Int32.ofInt c) :: st, f)))
  | .bipush c => pz_g1 n 2 (some ((pc + 2, ls, .int (Int8.ofInt c).toInt32 :: st, f)))
  | .sipush c => pz_g1 n 3 (some ((pc + 3, ls, .int (Int16.ofInt c).toInt32 :: st, f)))
  | .aconst_null => pz_g1 n 1 (some ((pc + 1, ls, .null :: st, f)))
  | .iload_n j => pz_g1 n 1 (pz_li ls j.val fun x => some ((pc + 1, ls, .int x :: st, f)))
  | .iload j => pz_g1 n 2 (pz_li ls j fun x => some ((pc + 2, ls, .int x :: st, f)))
  | .aload_n j => pz_g1 n 1 (pz_la ls j.val fun v => some ((pc + 1, ls, v :: st, f)))
  | .aload j => pz_g1 n 2 (pz_la ls j fun v => some ((pc + 2, ls, v :: st, f)))
  | .istore_n j => pz_g1 n 1 (pz_si st fun x r => if j.val < ls.length then some ((pc + 1, ls.set j.val (.int x), r, f)) else none)
  | .istore j => pz_g1 n 2 (pz_si st fun x r => if j < ls.length then some ((pc + 2, ls.set j (.int x), r, f)) else none)
  | .astore_n j => pz_g1 n 1 (pz_sv st fun v r => pz_ra v (if j.val < ls.length then some ((pc + 1, ls.set j.val v, r, f)) else none))
  | .astore j => pz_g1 n 2 (pz_sv st fun v r => pz_ra v (if j < ls.length then some ((pc + 2, ls.set j v, r, f)) else none))
  | .iinc j c => pz_g1 n 3 (pz_li ls j fun x => some ((pc + 3, ls.set j (.int (x + Int32.ofInt c)), st, f)))
  | .iadd => pz_g1 n 1 (pz_sii st fun x y r => some ((pc + 1, ls, .int (x + y) :: r, f)))
  | .isub => pz_g1 n 1 (pz_sii st fun x y r => some ((pc + 1, ls, .int (x - y) :: r, f)))
  | .imul => pz_g1 n 1 (pz_sii st fun x y r => some ((pc + 1, ls, .int (x * y) :: r, f)))
  | .irem => pz_g1 n 1 (pz_sii st fun x y r => if y = 0 then none else some ((pc + 1, ls, .int (x - x / y * y) :: r, f)))
  | .iand => pz_g1 n 1 (pz_sii st fun x y r => some ((pc + 1, ls, .int (x &&& y) :: r, f)))
  | .ior => pz_g1 n 1 (pz_sii st fun x y r => some ((pc + 1, ls, .int (x ||| y) :: r, f)))
  | .ixor => pz_g1 n 1 (pz_sii st fun x y r => some ((pc + 1, ls, .int (x ^^^ y) :: r, f)))
  | .ishl => pz_g1 n 1 (pz_sii st fun x y r => some ((pc + 1, ls, .int (x <<< (y &&& 31)) :: r, f)))
  | .ishr => pz_g1 n 1 (pz_sii st fun x y r => some ((pc + 1, ls, .int (x >>> (y &&& 31)) :: r, f)))
  | .ifCond c off => pz_g1 n 3 (pz_si st fun x r => pz_j pc off fun t => pz_br c x 0 (some ((t, ls, r, f))) (some ((pc + 3, ls, r, f))))
  | .if_icmp c off => pz_g1 n 3 (pz_sii st fun x y r => pz_j pc off fun t => pz_br c x y (some ((t, ls, r, f))) (some ((pc + 3, ls, r, f))))
  | .goto off => pz_g1 n 3 (pz_j pc off fun t => some ((t, ls, st, f)))
  | .ifnull off => pz_g1 n 3 (pz_sv st fun v r => pz_j pc off fun t => match v with
    | .null => some ((t, ls, r, f))
    | .ref _ => some ((pc + 3, ls, r, f))
    | _ => none)
  | .ifnonnull off => pz_g1 n 3 (pz_sv st fun v r => pz_j pc off fun t => match v with
    | .null => some ((pc + 3, ls, r, f))
    | .ref _ => some ((t, ls, r, f))
    | _ => none)
  | .tableswitch d lo hi offs => pz_si st fun x r => if x.toInt < lo ∨ hi < x.toInt then pz_j pc d fun t => some ((t, ls, r, f)) else match offs[(x.toInt - lo).toNat]? with
    | some off => pz_j pc off fun t => some ((t, ls, r, f))
    | none => none
  | .lookupswitch d ps => pz_si st fun x r => if (ps.toList.zip (ps.toList.drop 1)).all (fun (a, next) => a.1 < next.1) = true then pz_j pc (Op.lookupswitch.offset ps.toList d x.toInt) fun t => some ((t, ls, r, f)) else none
  | .dup => pz_g1 n 1 (pz_sv st fun v r => if v.category = 1 then some ((pc + 1, ls, v :: v :: r, f)) else none)
  | .dup2 => pz_g1 n 1 (pz_svv st fun v w r => if v.category = 1 ∧ w.category = 1 then some ((pc + 1, ls, v :: w :: v :: w :: r, f)) else none)
  | .dup_x1 => pz_g1 n 1 (pz_svv st fun v w r => if v.category = 1 ∧ w.category = 1 then some ((pc + 1, ls, v :: w :: v :: r, f)) else none)
  | .pop => pz_g1 n 1 (pz_sv st fun v r => if v.category = 1 then some ((pc + 1, ls, r, f)) else none)
  | .getfield idx => pz_g1 n 3 (pz_sr st fun a r => match pz_fld (pz_kc k) idx with
    | some q => (pz_gf f a q.1 q.2).bind fun v => some ((pc + 3, ls, v :: r, f))
    | none => none)
  | .putfield idx => pz_g1 n 3 (pz_svr st fun v a r => match pz_fld (pz_kc k) idx with
    | some q => if pz_wr q.1 q.2 = true ∧ narrow (pz_fty q.1 q.2) v = v ∧ fits (pz_fty q.1 q.2) v = true then (pz_pf f a q.1 q.2 v).bind fun f' => some ((pc + 3, ls, r, f')) else none
    | none => none)
  | .iaload => pz_g1 n 1 (pz_sir st fun i a r => (pz_il (dA 0) f a i).bind fun x => some ((pc + 1, ls, .int x :: r, f)))
  | .iastore => pz_g1 n 1 (pz_siir st fun x i a r => (pz_is (dA 0) f a i x).bind fun f' => some ((pc + 1, ls, r, f')))
  | .baload => pz_g1 n 1 (pz_sir st fun i a r => (pz_il (dA 1) f a i).bind fun x => some ((pc + 1, ls, .int x :: r, f)))
  | .bastore => pz_g1 n 1 (pz_siir st fun x i a r => (pz_is (dA 1) f a i (vp_nar .boolean x)).bind fun f' => some ((pc + 1, ls, r, f')))
  | .aaload => pz_g1 n 1 (pz_sir st fun i a r => (pz_rl dA f a i).bind fun v => some ((pc + 1, ls, v :: r, f)))
  | .aastore => pz_g1 n 1 (pz_srir st fun q i a r => (pz_rs dA f a i q).bind fun f' => some ((pc + 1, ls, r, f')))
  | .invokestatic idx => pz_g1 n 3 (if pz_mx (pz_kc k) idx = true then pz_sii st fun x y r => if r.length ≤ 4 then some ((pc + 3, ls, .int (if x < y then y else x) :: r, f)) else none
    else if pz_mn (pz_kc k) idx = true then pz_sii st fun x y r => if r.length ≤ 4 then some ((pc + 3, ls, .int (if y < x then y else x) :: r, f)) else none
    else none)
  | _ => none
/-- a call of an object's method, of a static one -/
def pz_cv (k n idx : Nat) (st : List Value) (f : pz_F) : Option pz_A := pz_g1 n 3 (match pz_mth (pz_kc k) idx with
  | some k' => pz_sr (st.drop (pz_pt k').length) fun b r => if pz_vi k' = true ∧ r.length ≤ 4 ∧ pz_pk (pz_pt k') (st.take (pz_pt k').length).reverse = true then (pz_gu f b (pz_ko k')).bind fun _ => some (.inr (.inl (k', .ref b :: (st.take (pz_pt k').length).reverse, r))) else none
  | none => none)
def pz_cz (k n idx : Nat) (st : List Value) : Option pz_A := pz_g1 n 3 (match pz_mth (pz_kc k) idx with
  | some k' => if pz_vi k' = false ∧ (st.drop (pz_pt k').length).length ≤ 4 ∧ pz_pk (pz_pt k') (st.take (pz_pt k').length).reverse = true then some (.inr (.inl (k', (st.take (pz_pt k').length).reverse, st.drop (pz_pt k').length))) else none
  | none => none)
/-- the ends -/
def pz_ei (k n : Nat) (st : List Value) : Option pz_A := pz_g1 n 1 (match st with
  | [.int x] => (match pz_ret k with
    | some ty => if narrow ty (.int x) = .int x then some (.inr (.inr (some (.int x)))) else none
    | none => none)
  | _ => none)
def pz_ea (k n : Nat) (st : List Value) : Option pz_A := pz_g1 n 1 (match st with
  | [v] => pz_ra v (match pz_ret k with
    | some (.object _) => some (.inr (.inr (some v)))
    | _ => none)
  | _ => none)
def pz_ev (k n : Nat) (st : List Value) : Option pz_A := pz_g1 n 1 (match st with
  | [] => if pz_ret k = none then some (.inr (.inr none)) else none
  | _ => none)
def pz_st1 (dA : Nat → ClassId) (k pc n : Nat) (ls st : List Value) (f : pz_F) (i : Instr) : Option pz_A := match i with
  | .invokevirtual idx => pz_cv k n idx st f
  | .invokestatic idx => if (pz_mth (pz_kc k) idx).isSome = true then pz_cz k n idx st else (pz_ex dA k pc n ls st f (.invokestatic idx)).map .inl
  | .ireturn => pz_ei k n st
  | .areturn => pz_ea k n st
  | .return_ => pz_ev k n st
  | i => (pz_ex dA k pc n ls st f i).map .inl
def pz_stp (dA : Nat → ClassId) (k pc : Nat) (ls st : List Value) (f : pz_F) : Option pz_A := match decode (pz_b k) pc with
  | .error _ => none
  | .ok q => pz_st1 dA k pc q.2 ls st f q.1
theorem pz_so {dA : Nat → ClassId} {k pc n : Nat} {ls st : List Value} {f : pz_F} {i : Instr} {z : Option pz_A} (hd : decode (pz_b k) pc = .ok (i, n)) (h : pz_st1 dA k pc n ls st f i = z) : pz_stp dA k pc ls st f = z := by
  unfold pz_stp
  rw [hd]
  exact h
theorem pz_stp_ex {dA : Nat → ClassId} {k pc : Nat} {ls st : List Value} {f : pz_F} {z : pz_S} (h : pz_stp dA k pc ls st f = some (.inl z)) : ∃ i n, decode (pz_b k) pc = .ok (i, n) ∧ pz_ex dA k pc n ls st f i = some z := by
  unfold pz_stp at h
  split at h
  · cases h
  · rename_i q hd
    obtain ⟨i, n⟩ := q
    refine ⟨i, n, hd, ?_⟩
    dsimp only at h
    unfold pz_st1 at h
    split at h
    · replace h := pz_g1_inv h; obtain ⟨-, h⟩ := h
      split at h
      · replace h := pz_sr_inv h; obtain ⟨b, r, -, h⟩ := h
        split at h
        · replace h := Option.bind_eq_some_iff.mp h; obtain ⟨v, -, h⟩ := h
          cases h
        · cases h
      · cases h
    · split at h
      · replace h := pz_g1_inv h; obtain ⟨-, h⟩ := h
        split at h
        · split at h
          · cases h
          · cases h
        · cases h
      · replace h := Option.map_eq_some_iff.mp h; obtain ⟨y, h1, h2⟩ := h
        cases h2
        exact h1
    · replace h := pz_g1_inv h; obtain ⟨-, h⟩ := h
      split at h
      · split at h
        · split at h
          · cases h
          · cases h
        · cases h
      · cases h
    · replace h := pz_g1_inv h; obtain ⟨-, h⟩ := h
      split at h
      · replace h := pz_ra_inv h; obtain ⟨-, h⟩ := h
        split at h
        · cases h
        · cases h
      · cases h
    · replace h := pz_g1_inv h; obtain ⟨-, h⟩ := h
      split at h
      · split at h
        · cases h
        · cases h
      · cases h
    · replace h := Option.map_eq_some_iff.mp h; obtain ⟨y, h1, h2⟩ := h
      cases h2
      exact h1
/-- what a call's step says -/
theorem pz_stp_c {dA : Nat → ClassId} {k pc k' : Nat} {ls st as rest : List Value} {f : pz_F} (h : pz_stp dA k pc ls st f = some (.inr (.inl (k', as, rest)))) : ∃ idx, pz_mth (pz_kc k) idx = some k' ∧ rest.length ≤ 4 ∧ ∃ As, pz_pk (pz_pt k') As = true ∧
    ((decode (pz_b k) pc = .ok (.invokevirtual idx, 3) ∧ pz_vi k' = true ∧ ∃ b fs, as = .ref b :: As ∧ st = As.reverse ++ .ref b :: rest ∧ f b = some (.inr (pz_ko k', fs))) ∨
     (decode (pz_b k) pc = .ok (.invokestatic idx, 3) ∧ pz_vi k' = false ∧ as = As ∧ st = As.reverse ++ rest)) := by
  unfold pz_stp at h
  split at h
  · cases h
  · rename_i q hd
    obtain ⟨i, n⟩ := q
    dsimp only at h
    unfold pz_st1 at h
    split at h
    · rename_i idx
      replace h := pz_g1_inv h; obtain ⟨rfl, h⟩ := h
      split at h
      · rename_i k2 hk
        replace h := pz_sr_inv h; obtain ⟨b, r, hst, h⟩ := h
        split at h
        · rename_i hc
          replace h := Option.bind_eq_some_iff.mp h; obtain ⟨v, hv, h⟩ := h
          cases h
          obtain ⟨fs, hfs⟩ := pz_gu_inv hv
          refine ⟨idx, hk, hc.2.1, _, hc.2.2, Or.inl ⟨hd, hc.1, b, fs, rfl, ?_, hfs⟩⟩
          rw [List.reverse_reverse, ← hst, List.take_append_drop]
        · cases h
      · cases h
    · rename_i idx
      split at h
      · replace h := pz_g1_inv h; obtain ⟨rfl, h⟩ := h
        split at h
        · rename_i k2 hk
          split at h
          · rename_i hc
            cases h
            refine ⟨idx, hk, hc.2.1, _, hc.2.2, Or.inr ⟨hd, hc.1, rfl, ?_⟩⟩
            rw [List.reverse_reverse, List.take_append_drop]
          · cases h
        · cases h
      · replace h := Option.map_eq_some_iff.mp h; obtain ⟨y, h1, h2⟩ := h
        cases h2
    · replace h := pz_g1_inv h; obtain ⟨-, h⟩ := h
      split at h
      · split at h
        · split at h
          · cases h
          · cases h
        · cases h
      · cases h
    · replace h := pz_g1_inv h; obtain ⟨-, h⟩ := h
      split at h
      · replace h := pz_ra_inv h; obtain ⟨-, h⟩ := h
        split at h
        · cases h
        · cases h
      · cases h
    · replace h := pz_g1_inv h; obtain ⟨-, h⟩ := h
      split at h
      · split at h
        · cases h
        · cases h
      · cases h
    · replace h := Option.map_eq_some_iff.mp h; obtain ⟨y, h1, h2⟩ := h
      cases h2
/-- what an end's step says -/
theorem pz_stp_r {dA : Nat → ClassId} {k pc : Nat} {ls st : List Value} {f : pz_F} {v : Option Value} (h : pz_stp dA k pc ls st f = some (.inr (.inr v))) :
    (∃ x ty, decode (pz_b k) pc = .ok (.ireturn, 1) ∧ st = [.int x] ∧ v = some (.int x) ∧ pz_ret k = some ty ∧ narrow ty (.int x) = .int x) ∨
    (∃ y n, decode (pz_b k) pc = .ok (.areturn, 1) ∧ st = [y] ∧ v = some y ∧ pz_ret k = some (.object n) ∧ (y = .null ∨ ∃ a, y = .ref a)) ∨
    (decode (pz_b k) pc = .ok (.return_, 1) ∧ st = [] ∧ v = none ∧ pz_ret k = none) := by
  unfold pz_stp at h
  split at h
  · cases h
  · rename_i q hd
    obtain ⟨i, n⟩ := q
    dsimp only at h
    unfold pz_st1 at h
    split at h
    · replace h := pz_g1_inv h; obtain ⟨-, h⟩ := h
      split at h
      · replace h := pz_sr_inv h; obtain ⟨b, r, -, h⟩ := h
        split at h
        · replace h := Option.bind_eq_some_iff.mp h; obtain ⟨v, -, h⟩ := h
          cases h
        · cases h
      · cases h
    · split at h
      · replace h := pz_g1_inv h; obtain ⟨-, h⟩ := h
        split at h
        · split at h
          · cases h
          · cases h
        · cases h
      · replace h := Option.map_eq_some_iff.mp h; obtain ⟨y, h1, h2⟩ := h
        cases h2
    · replace h := pz_g1_inv h; obtain ⟨rfl, h⟩ := h
      split at h
      · rename_i x
        split at h
        · rename_i ty hty
          split at h
          · rename_i hn
            cases h
            exact Or.inl ⟨x, ty, hd, rfl, rfl, hty, hn⟩
          · cases h
        · cases h
      · cases h
    · replace h := pz_g1_inv h; obtain ⟨rfl, h⟩ := h
      split at h
      · rename_i y
        replace h := pz_ra_inv h; obtain ⟨hy, h⟩ := h
        split at h
        · rename_i n hn
          cases h
          exact Or.inr (Or.inl ⟨y, n, hd, rfl, rfl, hn, hy.symm⟩)
        · cases h
      · cases h
    · replace h := pz_g1_inv h; obtain ⟨rfl, h⟩ := h
      split at h
      · split at h
        · rename_i hn
          cases h
          exact Or.inr (Or.inr ⟨hd, rfl, rfl, hn⟩)
        · cases h
      · cases h
    · replace h := Option.map_eq_some_iff.mp h; obtain ⟨y, h1, h2⟩ := h
      cases h2
/-! a run -/
def pz_wp (C : Nat → List Value → pz_F → (Option Value → pz_F → Prop) → Prop) (Q : Option Value → pz_F → Prop) (N : Nat → List Value → List Value → pz_F → Prop) (pc : Nat) (ls : List Value) (f : pz_F) (z : Option pz_A) : Prop := match z with
  | none => False
  | some (.inl c) => N c.1 c.2.1 c.2.2.1 c.2.2.2
  | some (.inr (.inl c)) => C c.1 c.2.1 f (fun r f' => N (pc + 3) ls (r.toList ++ c.2.2) f')
  | some (.inr (.inr v)) => Q v f
def pz_cm (C : Nat → List Value → pz_F → (Option Value → pz_F → Prop) → Prop) : Prop := ∀ (k : Nat) (a : List Value) (f : pz_F) (K K' : Option Value → pz_F → Prop), (∀ r g, K r g → K' r g) → C k a f K → C k a f K'
theorem pz_wp_mono {C : Nat → List Value → pz_F → (Option Value → pz_F → Prop) → Prop} (hC : pz_cm C) {Q Q' : Option Value → pz_F → Prop} (hQ : ∀ v f, Q v f → Q' v f) {N N' : Nat → List Value → List Value → pz_F → Prop} (hN : ∀ pc ls st f, N pc ls st f → N' pc ls st f) {pc : Nat} {ls : List Value} {f : pz_F} {z : Option pz_A} (h : pz_wp C Q N pc ls f z) : pz_wp C Q' N' pc ls f z := by
  match z, h with
  | some (.inl c), h => exact hN _ _ _ _ h
  | some (.inr (.inl c)), h => exact hC _ _ _ _ _ (fun r g hr => hN _ _ _ _ hr) h
  | some (.inr (.inr v)), h => exact hQ _ _ h
def pz_lf (dA : Nat → ClassId) (C : Nat → List Value → pz_F → (Option Value → pz_F → Prop) → Prop) (Q : Option Value → pz_F → Prop) (k pc : Nat) (ls st : List Value) (f : pz_F) : Prop :=
  ∀ N : Nat → List Value → List Value → pz_F → Prop, (∀ pc ls st f, pz_wp C Q N pc ls f (pz_stp dA k pc ls st f) → N pc ls st f) → N pc ls st f
theorem pz_lf_in {dA : Nat → ClassId} {C : Nat → List Value → pz_F → (Option Value → pz_F → Prop) → Prop} (hC : pz_cm C) {Q : Option Value → pz_F → Prop} {k pc : Nat} {ls st : List Value} {f : pz_F} (h : pz_wp C Q (pz_lf dA C Q k) pc ls f (pz_stp dA k pc ls st f)) : pz_lf dA C Q k pc ls st f := by
  intro N hN
  exact hN _ _ _ _ (pz_wp_mono hC (fun _ _ q => q) (fun pc ls st f q => q N hN) h)
theorem pz_lf_iff {dA : Nat → ClassId} {C : Nat → List Value → pz_F → (Option Value → pz_F → Prop) → Prop} (hC : pz_cm C) {Q : Option Value → pz_F → Prop} {k pc : Nat} {ls st : List Value} {f : pz_F} : pz_lf dA C Q k pc ls st f ↔ pz_wp C Q (pz_lf dA C Q k) pc ls f (pz_stp dA k pc ls st f) := by
  constructor
  · intro h
    refine h (fun pc ls st f => pz_wp C Q (pz_lf dA C Q k) pc ls f (pz_stp dA k pc ls st f)) ?_
    intro pc ls st f h2
    exact pz_wp_mono hC (fun _ _ q => q) (fun pc ls st f q => pz_lf_in hC q) h2
  · exact pz_lf_in hC
theorem pz_lf_mono {dA : Nat → ClassId} {C : Nat → List Value → pz_F → (Option Value → pz_F → Prop) → Prop} (hC : pz_cm C) {Q Q' : Option Value → pz_F → Prop} (hQ : ∀ v f, Q v f → Q' v f) {k pc : Nat} {ls st : List Value} {f : pz_F} (h : pz_lf dA C Q k pc ls st f) : pz_lf dA C Q' k pc ls st f := by
  intro N hN
  refine h N (fun pc ls st f q => hN _ _ _ _ (pz_wp_mono hC hQ (fun _ _ _ _ q => q) q))
/-- method k, from place pc with these locals, this stack and these cells, comes to its end with Q; it calls no deeper than d -/
def pz_R (dA : Nat → ClassId) : Nat → Nat → Nat → List Value → List Value → pz_F → (Option Value → pz_F → Prop) → Prop
  | 0 => fun k pc ls st f Q => pz_lf dA (fun _ _ _ _ => False) Q k pc ls st f
  | d + 1 => fun k pc ls st f Q => pz_lf dA (fun k' as f K => pz_R dA d k' 0 (pz_lc k' as) [] f K) Q k pc ls st f
/-- a call -/
def pz_C (dA : Nat → ClassId) (d : Nat) (k : Nat) (as : List Value) (f : pz_F) (Q : Option Value → pz_F → Prop) : Prop := pz_R dA d k 0 (pz_lc k as) [] f Q
def pz_Cd (dA : Nat → ClassId) (d : Nat) : Nat → List Value → pz_F → (Option Value → pz_F → Prop) → Prop := match d with
  | 0 => fun _ _ _ _ => False
  | d + 1 => fun k' as f K => pz_R dA d k' 0 (pz_lc k' as) [] f K
theorem pz_R_eq (dA : Nat → ClassId) (d k pc : Nat) (ls st : List Value) (f : pz_F) (Q : Option Value → pz_F → Prop) : pz_R dA d k pc ls st f Q = pz_lf dA (pz_Cd dA d) Q k pc ls st f := by
  cases d <;> rfl
theorem pz_R_mono {dA : Nat → ClassId} : ∀ (d : Nat) {k pc : Nat} {ls st : List Value} {f : pz_F} {Q Q' : Option Value → pz_F → Prop}, (∀ v f, Q v f → Q' v f) → pz_R dA d k pc ls st f Q → pz_R dA d k pc ls st f Q'
  | 0, k, pc, ls, st, f, Q, Q', hQ, h => pz_lf_mono (C := fun _ _ _ _ => False) (fun _ _ _ _ _ _ q => q) hQ h
  | d + 1, k, pc, ls, st, f, Q, Q', hQ, h => pz_lf_mono (C := fun k' as f K => pz_R dA d k' 0 (pz_lc k' as) [] f K) (fun _ _ _ _ _ hK q => pz_R_mono d hK q) hQ h
theorem pz_Cd_mono {dA : Nat → ClassId} (d : Nat) : pz_cm (pz_Cd dA d) := by
  cases d with
  | zero => exact fun _ _ _ _ _ _ q => q
  | succ d => exact fun _ _ _ _ _ hK q => pz_R_mono d hK q
theorem pz_R_iff {dA : Nat → ClassId} {d k pc : Nat} {ls st : List Value} {f : pz_F} {Q : Option Value → pz_F → Prop} : pz_R dA d k pc ls st f Q ↔ pz_wp (pz_Cd dA d) Q (fun pc ls st f => pz_R dA d k pc ls st f Q) pc ls f (pz_stp dA k pc ls st f) := by
  have e : (fun pc ls st f => pz_R dA d k pc ls st f Q) = pz_lf dA (pz_Cd dA d) Q k := by
    funext pc ls st f
    exact pz_R_eq dA d k pc ls st f Q
  rw [e, pz_R_eq]
  exact pz_lf_iff (pz_Cd_mono d)
/-- what an answer that may be wanting gives -/
def pz_o {α : Type} (z : Option α) (K : α → Prop) : Prop := match z with
  | some v => K v
  | none => False
theorem pz_o_s {α : Type} (v : α) (K : α → Prop) : pz_o (some v) K = K v := rfl
theorem pz_o_n {α : Type} (K : α → Prop) : pz_o none K = False := rfl
section PZR
variable {dA : Nat → ClassId} {d k pc : Nat} {ls st : List Value} {f : pz_F} {Q : Option Value → pz_F → Prop}
theorem pz_go {pc' : Nat} {ls' st' : List Value} {f' : pz_F} (h : pz_stp dA k pc ls st f = some (.inl (pc', ls', st', f'))) : pz_R dA d k pc ls st f Q = pz_R dA d k pc' ls' st' f' Q := by
  apply propext
  rw [pz_R_iff, h]
  exact Iff.rfl
theorem pz_gi {c : Prop} [Decidable c] {p1 p2 : Nat} {ls' st' : List Value} {f' : pz_F} (h : pz_stp dA k pc ls st f = Option.map .inl (if c then some (p1, ls', st', f') else some (p2, ls', st', f'))) : pz_R dA d k pc ls st f Q = if c then pz_R dA d k p1 ls' st' f' Q else pz_R dA d k p2 ls' st' f' Q := by
  by_cases hc : c
  · rw [if_pos hc] at h ⊢
    exact pz_go h
  · rw [if_neg hc] at h ⊢
    exact pz_go h
theorem pz_gb {α : Type} {z : Option α} {pc' : α → Nat} {ls' st' : α → List Value} {f' : α → pz_F} (h : pz_stp dA k pc ls st f = Option.map .inl (z.bind fun v => some (pc' v, ls' v, st' v, f' v))) : pz_R dA d k pc ls st f Q = pz_o z (fun v => pz_R dA d k (pc' v) (ls' v) (st' v) (f' v) Q) := by
  cases z with
  | none =>
    apply propext
    rw [pz_R_iff, h]
    exact Iff.rfl
  | some v => exact pz_go h
theorem pz_gc {z : Option Unit} {k' : Nat} {as rest : List Value} (h : pz_stp dA k pc ls st f = z.bind fun _ => some (.inr (.inl (k', as, rest)))) : pz_R dA (d + 1) k pc ls st f Q = pz_o z (fun _ => pz_C dA d k' as f (fun r f' => pz_R dA (d + 1) k (pc + 3) ls (r.toList ++ rest) f' Q)) := by
  apply propext
  rw [pz_R_iff, h]
  cases z with
  | none => exact Iff.rfl
  | some v => exact Iff.rfl
theorem pz_gs {k' : Nat} {as rest : List Value} (h : pz_stp dA k pc ls st f = some (.inr (.inl (k', as, rest)))) : pz_R dA (d + 1) k pc ls st f Q = pz_C dA d k' as f (fun r f' => pz_R dA (d + 1) k (pc + 3) ls (r.toList ++ rest) f' Q) := by
  apply propext
  rw [pz_R_iff, h]
  exact Iff.rfl
theorem pz_gr {v : Option Value} (h : pz_stp dA k pc ls st f = some (.inr (.inr v))) : pz_R dA d k pc ls st f Q = Q v f := by
  apply propext
  rw [pz_R_iff, h]
  exact Iff.rfl
end PZR
end
section
/-! the pure machine is the machine: locals, cells, one step -/
def pz_lv (ls : List Value) : List (Nat × Value) := (List.range ls.length).filterMap (fun i => match ls[i]? with
  | some v => if v = .retAddr 0 then none else some (i, v)
  | none => none)
theorem pz_lv_mem {ls : List Value} {i : Nat} {v : Value} (h : ls[i]? = some v) (hv : v ≠ .retAddr 0) : (i, v) ∈ pz_lv ls := by
  have hi : i < ls.length := (List.getElem?_eq_some_iff.mp h).1
  refine List.mem_filterMap.mpr ⟨i, List.mem_range.mpr hi, ?_⟩
  rw [h]
  simp [hv]
theorem pz_lv_of {ls : List Value} {q : Nat × Value} (h : q ∈ pz_lv ls) : ls[q.1]? = some q.2 ∧ q.2 ≠ .retAddr 0 := by
  obtain ⟨i, -, h2⟩ := List.mem_filterMap.mp h
  cases hx : ls[i]? with
  | none => rw [hx] at h2; cases h2
  | some v =>
    rw [hx] at h2
    dsimp only at h2
    split at h2
    · cases h2
    · rename_i hv
      cases h2
      exact ⟨hx, hv⟩
def pz_L (n : Nat) (ls : List Value) (lsA : Array Slot) : Prop := lsA.size = n ∧ lv_wf lsA ∧ ls.length = n ∧ ∀ (i : Nat) (v : Value), ls[i]? = some v → v ≠ .retAddr 0 → v.category = 1 ∧ lsA[i]? = some (.val v)
theorem pz_L.has {n : Nat} {ls : List Value} {lsA : Array Slot} (h : pz_L n ls lsA) : lv_has lsA n (pz_lv ls) := ⟨h.1, h.2.1, fun q hq => (h.2.2.2 _ _ (pz_lv_of hq).1 (pz_lv_of hq).2).2⟩
theorem pz_L.set {n i : Nat} {ls : List Value} {lsA lsA' : Array Slot} {v : Value} (h : pz_L n ls lsA) (hv : v.category = 1) (h' : lv_has lsA' n ((i, v) :: (pz_lv ls).filter (fun q => !(q.1 == i) && !(q.1 + 1 == i && q.2.category == 2)))) : pz_L n (ls.set i v) lsA' := by
  refine ⟨h'.1, h'.2.1, by rw [List.length_set]; exact h.2.2.1, fun j w hj hw => ?_⟩
  by_cases e : j = i
  · subst e
    have hl : j < ls.length := by
      have := (List.getElem?_eq_some_iff.mp hj).1
      rwa [List.length_set] at this
    rw [List.getElem?_set_self hl] at hj
    cases hj
    exact ⟨hv, h'.2.2 (j, v) List.mem_cons_self⟩
  · rw [List.getElem?_set_ne (Ne.symm e)] at hj
    obtain ⟨c1, -⟩ := h.2.2.2 j w hj hw
    refine ⟨c1, h'.2.2 (j, w) (List.mem_cons_of_mem _ (List.mem_filter.mpr ⟨pz_lv_mem hj hw, ?_⟩))⟩
    simp [e, c1]
theorem pz_L.int {n i : Nat} {ls : List Value} {lsA : Array Slot} {x : Int32} (h : pz_L n ls lsA) (hi : ls[i]? = some (.int x)) : lsA[i]? = some (.val (.int x)) := (h.2.2.2 _ _ hi (fun q => by cases q)).2
theorem pz_L.ref {n i : Nat} {ls : List Value} {lsA : Array Slot} {x : Nat} (h : pz_L n ls lsA) (hi : ls[i]? = some (.ref x)) : lsA[i]? = some (.val (.ref x)) := (h.2.2.2 _ _ hi (fun q => by cases q)).2
theorem pz_L.nul {n i : Nat} {ls : List Value} {lsA : Array Slot} (h : pz_L n ls lsA) (hi : ls[i]? = some .null) : lsA[i]? = some (.val .null) := (h.2.2.2 _ _ hi (fun q => by cases q)).2
/-- the cells of the world -/
def pz_W (dC : Nat → ClassId) (dI : Nat → Nat → Nat) (L : List Nat) (f : pz_F) (H : Heap) : Prop := ∃ fw : Nat → va_E, (∀ a e, f a = some e → a ∈ L ∧ fw a = e) ∧ va_P (dC, dI) pz_cs (va_pl L fw) H ∧ va_D (fun q => q ∈ L) (va_pl L fw)
theorem pz_W.at {dC : Nat → ClassId} {dI : Nat → Nat → Nat} {L : List Nat} {f : pz_F} {H : Heap} (h : pz_W dC dI L f H) {a : Nat} {e : va_E} (ha : f a = some e) : ∃ (fw : Nat → va_E) (k : Nat), (∀ a e, f a = some e → a ∈ L ∧ fw a = e) ∧ va_P (dC, dI) pz_cs (va_pl L fw) H ∧ va_D (fun q => q ∈ L) (va_pl L fw) ∧ (va_pl L fw)[k]? = some (a, e) ∧ (∀ e', (va_pl L fw).set k (a, e') = va_pl L (va_up fw a e')) := by
  obtain ⟨fw, h1, h2, h3⟩ := h
  obtain ⟨hl, he⟩ := h1 a e ha
  obtain ⟨k, hk⟩ := va_pl_get (X := []) (f := fw) hl
  have hk' : (va_pl L fw)[k]? = some (a, fw a) := hk
  refine ⟨fw, k, h1, h2, h3, by rw [hk', he], fun e' => ?_⟩
  have := va_pl_set (A := fun q => q ∈ L) (X := []) (f := fw) (e := e') (by simpa using h3) hl hk
  simpa using this
theorem pz_W.to {dC : Nat → ClassId} {dI : Nat → Nat → Nat} {L : List Nat} {f : pz_F} {H : Heap} {fw : Nat → va_E} {a : Nat} {e e0 : va_E} (ha : f a = some e0) (h1 : ∀ a e, f a = some e → a ∈ L ∧ fw a = e) (h2 : va_P (dC, dI) pz_cs (va_pl L (va_up fw a e)) H) (h3 : va_D (fun q => q ∈ L) (va_pl L (va_up fw a e))) : pz_W dC dI L (pz_up f a e) H := by
  refine ⟨va_up fw a e, fun b e' hb => ?_, h2, h3⟩
  by_cases hba : b = a
  · subst hba
    rw [pz_up_s] at hb
    cases hb
    exact ⟨(h1 b e0 ha).1, va_up_self _ _ _⟩
  · rw [pz_up_n _ _ hba] at hb
    rw [va_up_ne _ _ hba]
    exact h1 b e' hb
def pz_K (dA dC : Nat → ClassId) (dI : Nat → Nat → Nat) (U : State) : Prop := va_K (dC, dI) pz_cs (pz_ty dA) U ∧ ∀ w ∈ pz_nw, va_Nw w U
section PZS
variable {p : Program} {l : Launch} {e : Env} {R : Room} {s : State} {m : MethodId} {args : Array Value} {below : List Frame} {meth : Method} {c : Code} {H H0 : Heap} {locs : List Loc} {cells slots : Nat} {Q : State → Prop}
variable {dA dC : Nat → ClassId} {dI : Nat → Nat → Nat} {L : List Nat} {k pc : Nat} {lsA : Array Slot} {st : List Value} {f : pz_F}
theorem pz_getW {idx a ci j : Nat} {v : Value} {r : List Value} (hx : p.tables.exec = Jvm.exec) (hb : c.code = pz_b k) (hown : s.vm.findClass (pz_on (pz_kc k)) = some m.cls) (hts : ∀ w ∈ pz_ws, w.before args s = true) (hK : pz_K dA dC dI s) (hW : pz_W dC dI L f H)
    (hd : decode (pz_b k) pc = .ok (.getfield idx, 3)) (hq : pz_fld (pz_kc k) idx = some (ci, j)) (hv : pz_gf f a ci j = some v) (kk : W p l e R s m args below meth c H locs cells slots Q (F0 m (pc + 3) lsA (v :: r))) : W p l e R s m args below meth c H locs cells slots Q (F0 m pc lsA (.ref a :: r)) := by
  obtain ⟨fs, ha, hj⟩ := pz_gf_inv hv
  obtain ⟨fw, k0, -, hP, -, hk0, -⟩ := hW.at ha
  obtain ⟨C, T, N, hc, hjN, hin, hdecl, hlink⟩ := pz_fld_ok hq
  rcases hlink with hlink | ⟨host, hlink⟩
  · exact va_get (ref := C) hx hb hts hin hown hK.1 hP k0 hk0 hc j hjN (hts _ hlink) (fun x h => by rw [← hdecl]; exact h) hj hd kk
  · exact va_getN (ref := C) (host := host) hx hb hts hin hown hK.1 hP k0 hk0 hc j hjN (va_Nw.use rfl (hK.2 _ hlink)) (fun x h => by rw [← hdecl]; exact h) hj hd kk
theorem pz_putW {idx a ci j : Nat} {v : Value} {r : List Value} {f' : pz_F} (hx : p.tables.exec = Jvm.exec) (hb : c.code = pz_b k) (hown : s.vm.findClass (pz_on (pz_kc k)) = some m.cls) (hts : ∀ w ∈ pz_ws, w.before args s = true) (hK : pz_K dA dC dI s) (hW : pz_W dC dI L f H) (hS : va_S (fun q => q ∈ L) H0 H locs)
    (hd : decode (pz_b k) pc = .ok (.putfield idx, 3)) (hq : pz_fld (pz_kc k) idx = some (ci, j)) (hfin : pz_wr ci j = true) (hn : narrow (pz_fty ci j) v = v) (hfit : fits (pz_fty ci j) v = true) (hv : pz_pf f a ci j v = some f') (kk : ∀ (H' : Heap) (locs' : List Loc), pz_W dC dI L f' H' → va_S (fun q => q ∈ L) H0 H' locs' → W p l e R s m args below meth c H' locs' cells slots Q (F0 m (pc + 3) lsA r)) : W p l e R s m args below meth c H locs cells slots Q (F0 m pc lsA (v :: .ref a :: r)) := by
  obtain ⟨fs, ha, hj, rfl⟩ := pz_pf_inv hv
  obtain ⟨fw, k0, hfw, hP, hD, hk0, hset⟩ := hW.at ha
  obtain ⟨C, T, N, hc, hjN, hin, hdecl, hlink⟩ := pz_fld_ok hq
  obtain ⟨hty, hnm, hf1⟩ := pz_cs_ok hc
  have hfin' : (T j).2.2.2 = false := by rw [hf1 j hjN, hfin]; rfl
  rcases hlink with hlink | ⟨host, hlink⟩
  · refine va_put (ref := C) hx hb hts hin (pz_fty ci) hty hnm hown hK.1 hP hD hS k0 hk0 hc j hjN (hts _ hlink) (fun x h => by rw [← hdecl]; exact h) hfin' (hty j hjN) hn hfit hj hd (fun H1 locs1 hP1 hD1 hS1 => ?_)
    rw [hset] at hP1 hD1
    exact kk H1 locs1 (pz_W.to ha hfw hP1 hD1) hS1
  · refine va_putN (ref := C) (host := host) hx hb hts hin (pz_fty ci) hty hnm hown hK.1 hP hD hS k0 hk0 hc j hjN (va_Nw.use rfl (hK.2 _ hlink)) (fun x h => by rw [← hdecl]; exact h) hfin' (hty j hjN) hn hfit hj hd (fun H1 locs1 hP1 hD1 hS1 => ?_)
    rw [hset] at hP1 hD1
    exact kk H1 locs1 (pz_W.to ha hfw hP1 hD1) hS1

theorem pz_cat : ∀ r : List Value, (r.map fun v => v.category).sum ≤ 2 * r.length
  | [] => Nat.le_refl _
  | v :: r => by
    have h := pz_cat r
    rcases lv_cat v with h1 | h1 <;> simp only [List.map_cons, List.sum_cons, List.length_cons, h1] <;> omega
set_option maxHeartbeats 4000000 in
set_option maxRecDepth 100000 in
theorem pz_step {pc' : Nat} {ls ls' st' : List Value} {f' : pz_F} (hx : p.tables.exec = Jvm.exec) (hb : c.code = pz_b k) (hml : c.maxLocals = pz_n k) (hown : s.vm.findClass (pz_on (pz_kc k)) = some m.cls) (hts : ∀ w ∈ pz_ws, w.before args s = true) (hK : pz_K dA dC dI s) (hR : 1 ≤ R.frames ∧ 24 ≤ R.locals ∧ cells ≤ R.cells ∧ slots ≤ R.slots)
    (h : pz_stp dA k pc ls st f = some (.inl (pc', ls', st', f'))) (hL : pz_L (pz_n k) ls lsA) (hW : pz_W dC dI L f H) (hS : va_S (fun q => q ∈ L) H0 H locs)
    (kk : ∀ (H' : Heap) (locs' : List Loc) (lsA' : Array Slot), pz_L (pz_n k) ls' lsA' → pz_W dC dI L f' H' → va_S (fun q => q ∈ L) H0 H' locs' → W p l e R s m args below meth c H' locs' cells slots Q (F0 m pc' lsA' st')) : W p l e R s m args below meth c H locs cells slots Q (F0 m pc lsA st) := by
  replace h := pz_stp_ex h; obtain ⟨i, n, hd, h⟩ := h
  unfold pz_ex at h
  split at h
  · -- iconst
    replace h := pz_g1_inv h; obtain ⟨rfl, h⟩ := h
    cases h
    exact lv_iconst hx hb hd rfl (kk _ _ _ hL hW hS)
  · -- bipush
    replace h := pz_g1_inv h; obtain ⟨rfl, h⟩ := h
    cases h
    exact lv_bipush hx hb hd rfl (kk _ _ _ hL hW hS)
  · -- sipush
    replace h := pz_g1_inv h; obtain ⟨rfl, h⟩ := h
    cases h
    exact lv_sipush hx hb hd rfl (kk _ _ _ hL hW hS)
  · -- aconst_null
    replace h := pz_g1_inv h; obtain ⟨rfl, h⟩ := h
    cases h
    exact lv_null hx hb hd (kk _ _ _ hL hW hS)
  · -- iload_n
    replace h := pz_g1_inv h; obtain ⟨rfl, h⟩ := h
    replace h := pz_li_inv h; obtain ⟨x, hi, h⟩ := h
    cases h
    exact lv_iload_n hx hb hd rfl (hL.int hi) (kk _ _ _ hL hW hS)
  · -- iload
    replace h := pz_g1_inv h; obtain ⟨rfl, h⟩ := h
    replace h := pz_li_inv h; obtain ⟨x, hi, h⟩ := h
    cases h
    exact lv_iload hx hb hd (hL.int hi) (kk _ _ _ hL hW hS)
  · -- aload_n
    replace h := pz_g1_inv h; obtain ⟨rfl, h⟩ := h
    replace h := pz_la_inv h; rcases h with ⟨a, hi, h⟩ | ⟨hi, h⟩
    · cases h
      exact lv_aload_n hx hb hd rfl (hL.ref hi) (kk _ _ _ hL hW hS)
    · cases h
      exact lv_aload_nN hx hb hd rfl (hL.nul hi) (kk _ _ _ hL hW hS)
  · -- aload
    replace h := pz_g1_inv h; obtain ⟨rfl, h⟩ := h
    replace h := pz_la_inv h; rcases h with ⟨a, hi, h⟩ | ⟨hi, h⟩
    · cases h
      exact lv_aload hx hb hd (hL.ref hi) (kk _ _ _ hL hW hS)
    · cases h
      exact lv_aloadN hx hb hd (hL.nul hi) (kk _ _ _ hL hW hS)
  · -- istore_n
    replace h := pz_g1_inv h; obtain ⟨rfl, h⟩ := h
    replace h := pz_si_inv h; obtain ⟨x, r, rfl, h⟩ := h
    split at h
    · rename_i hj
      cases h
      exact lv_istore_n hx hb hd rfl hL.has (by rw [← hL.2.2.1]; exact hj) rfl (fun ls1 h1 => kk _ _ _ (hL.set rfl h1) hW hS)
    · cases h
  · -- istore
    replace h := pz_g1_inv h; obtain ⟨rfl, h⟩ := h
    replace h := pz_si_inv h; obtain ⟨x, r, rfl, h⟩ := h
    split at h
    · rename_i hj
      cases h
      exact lv_istore hx hb hd hL.has (by rw [← hL.2.2.1]; exact hj) rfl (fun ls1 h1 => kk _ _ _ (hL.set rfl h1) hW hS)
    · cases h
  · -- astore_n
    replace h := pz_g1_inv h; obtain ⟨rfl, h⟩ := h
    replace h := pz_sv_inv h; obtain ⟨v, r, rfl, h⟩ := h
    replace h := pz_ra_inv h; obtain ⟨hv, h⟩ := h
    split at h
    · rename_i hj
      cases h
      rcases hv with ⟨a, rfl⟩ | rfl
      · exact lv_astore_n hx hb hd rfl hL.has (by rw [← hL.2.2.1]; exact hj) rfl (fun ls1 h1 => kk _ _ _ (hL.set rfl h1) hW hS)
      · exact lv_astore_nN hx hb hd rfl hL.has (by rw [← hL.2.2.1]; exact hj) rfl (fun ls1 h1 => kk _ _ _ (hL.set rfl h1) hW hS)
    · cases h
  · -- astore
    replace h := pz_g1_inv h; obtain ⟨rfl, h⟩ := h
    replace h := pz_sv_inv h; obtain ⟨v, r, rfl, h⟩ := h
    replace h := pz_ra_inv h; obtain ⟨hv, h⟩ := h
    split at h
    · rename_i hj
      cases h
      rcases hv with ⟨a, rfl⟩ | rfl
      · exact lv_astore hx hb hd hL.has (by rw [← hL.2.2.1]; exact hj) rfl (fun ls1 h1 => kk _ _ _ (hL.set rfl h1) hW hS)
      · exact lv_astoreN hx hb hd hL.has (by rw [← hL.2.2.1]; exact hj) rfl (fun ls1 h1 => kk _ _ _ (hL.set rfl h1) hW hS)
    · cases h
  · -- iinc
    replace h := pz_g1_inv h; obtain ⟨rfl, h⟩ := h
    replace h := pz_li_inv h; obtain ⟨x, hi, h⟩ := h
    cases h
    obtain ⟨k9, hk9⟩ := List.getElem?_of_mem (pz_lv_mem hi (fun q => by cases q))
    exact lv_iinc hx hb hd hL.has hk9 rfl (by rw [← hL.2.2.1]; exact (List.getElem?_eq_some_iff.mp hi).1) rfl (fun ls1 h1 => kk _ _ _ (hL.set rfl h1) hW hS)
  · -- iadd
    replace h := pz_g1_inv h; obtain ⟨rfl, h⟩ := h
    replace h := pz_sii_inv h; obtain ⟨x, y, r, rfl, h⟩ := h
    cases h
    exact lv_iadd hx hb hd (kk _ _ _ hL hW hS)
  · -- isub
    replace h := pz_g1_inv h; obtain ⟨rfl, h⟩ := h
    replace h := pz_sii_inv h; obtain ⟨x, y, r, rfl, h⟩ := h
    cases h
    exact lv_isub hx hb hd (kk _ _ _ hL hW hS)
  · -- imul
    replace h := pz_g1_inv h; obtain ⟨rfl, h⟩ := h
    replace h := pz_sii_inv h; obtain ⟨x, y, r, rfl, h⟩ := h
    cases h
    exact lv_imul hx hb hd (kk _ _ _ hL hW hS)
  · -- irem
    replace h := pz_g1_inv h; obtain ⟨rfl, h⟩ := h
    replace h := pz_sii_inv h; obtain ⟨x, y, r, rfl, h⟩ := h
    split at h
    · cases h
    · rename_i hy
      cases h
      exact lv_irem hx hb hd hy (kk _ _ _ hL hW hS)
  · -- iand
    replace h := pz_g1_inv h; obtain ⟨rfl, h⟩ := h
    replace h := pz_sii_inv h; obtain ⟨x, y, r, rfl, h⟩ := h
    cases h
    exact lv_iand hx hb hd (kk _ _ _ hL hW hS)
  · -- ior
    replace h := pz_g1_inv h; obtain ⟨rfl, h⟩ := h
    replace h := pz_sii_inv h; obtain ⟨x, y, r, rfl, h⟩ := h
    cases h
    exact lv_ior hx hb hd (kk _ _ _ hL hW hS)
  · -- ixor
    replace h := pz_g1_inv h; obtain ⟨rfl, h⟩ := h
    replace h := pz_sii_inv h; obtain ⟨x, y, r, rfl, h⟩ := h
    cases h
    exact lv_ixor hx hb hd (kk _ _ _ hL hW hS)
  · -- ishl
    replace h := pz_g1_inv h; obtain ⟨rfl, h⟩ := h
    replace h := pz_sii_inv h; obtain ⟨x, y, r, rfl, h⟩ := h
    cases h
    exact lv_ishl hx hb hd (kk _ _ _ hL hW hS)
  · -- ishr
    replace h := pz_g1_inv h; obtain ⟨rfl, h⟩ := h
    replace h := pz_sii_inv h; obtain ⟨x, y, r, rfl, h⟩ := h
    cases h
    exact lv_ishr hx hb hd (kk _ _ _ hL hW hS)
  · -- ifCond
    replace h := pz_g1_inv h; obtain ⟨rfl, h⟩ := h
    replace h := pz_si_inv h; obtain ⟨x, r, rfl, h⟩ := h
    replace h := pz_j_inv h; obtain ⟨tgt, ht, h⟩ := h
    unfold pz_br at h
    split at h
    · split at h
      · rename_i hc
        cases h
        exact lv_if_eq hx hb hd ht (fun _ => (kk _ _ _ hL hW hS)) (fun q => absurd hc q)
      · rename_i hc
        cases h
        exact lv_if_eq hx hb hd ht (fun q => absurd q hc) (fun _ => (kk _ _ _ hL hW hS))
    · split at h
      · rename_i hc
        cases h
        exact lv_if_ne hx hb hd ht (fun q => absurd hc q) (fun _ => (kk _ _ _ hL hW hS))
      · rename_i hc
        cases h
        exact lv_if_ne hx hb hd ht (fun _ => (kk _ _ _ hL hW hS)) (fun q => absurd q hc)
    · split at h
      · rename_i hc
        cases h
        exact lv_if_lt hx hb hd ht (fun _ => (kk _ _ _ hL hW hS)) (fun q => absurd hc q)
      · rename_i hc
        cases h
        exact lv_if_lt hx hb hd ht (fun q => absurd q hc) (fun _ => (kk _ _ _ hL hW hS))
    · split at h
      · rename_i hc
        cases h
        exact lv_if_ge hx hb hd ht (fun _ => (kk _ _ _ hL hW hS)) (fun q => absurd hc q)
      · rename_i hc
        cases h
        exact lv_if_ge hx hb hd ht (fun q => absurd q hc) (fun _ => (kk _ _ _ hL hW hS))
    · split at h
      · rename_i hc
        cases h
        exact lv_if_gt hx hb hd ht (fun _ => (kk _ _ _ hL hW hS)) (fun q => absurd hc q)
      · rename_i hc
        cases h
        exact lv_if_gt hx hb hd ht (fun q => absurd q hc) (fun _ => (kk _ _ _ hL hW hS))
    · split at h
      · rename_i hc
        cases h
        exact lv_if_le hx hb hd ht (fun _ => (kk _ _ _ hL hW hS)) (fun q => absurd hc q)
      · rename_i hc
        cases h
        exact lv_if_le hx hb hd ht (fun q => absurd q hc) (fun _ => (kk _ _ _ hL hW hS))
  · -- if_icmp
    replace h := pz_g1_inv h; obtain ⟨rfl, h⟩ := h
    replace h := pz_sii_inv h; obtain ⟨x, y, r, rfl, h⟩ := h
    replace h := pz_j_inv h; obtain ⟨tgt, ht, h⟩ := h
    unfold pz_br at h
    split at h
    · split at h
      · rename_i hc
        cases h
        exact lv_icmp_eq hx hb hd ht (fun _ => (kk _ _ _ hL hW hS)) (fun q => absurd hc q)
      · rename_i hc
        cases h
        exact lv_icmp_eq hx hb hd ht (fun q => absurd q hc) (fun _ => (kk _ _ _ hL hW hS))
    · split at h
      · rename_i hc
        cases h
        exact lv_icmp_ne hx hb hd ht (fun q => absurd hc q) (fun _ => (kk _ _ _ hL hW hS))
      · rename_i hc
        cases h
        exact lv_icmp_ne hx hb hd ht (fun _ => (kk _ _ _ hL hW hS)) (fun q => absurd q hc)
    · split at h
      · rename_i hc
        cases h
        exact lv_icmp_lt hx hb hd ht (fun _ => (kk _ _ _ hL hW hS)) (fun q => absurd hc q)
      · rename_i hc
        cases h
        exact lv_icmp_lt hx hb hd ht (fun q => absurd q hc) (fun _ => (kk _ _ _ hL hW hS))
    · split at h
      · rename_i hc
        cases h
        exact lv_icmp_ge hx hb hd ht (fun _ => (kk _ _ _ hL hW hS)) (fun q => absurd hc q)
      · rename_i hc
        cases h
        exact lv_icmp_ge hx hb hd ht (fun q => absurd q hc) (fun _ => (kk _ _ _ hL hW hS))
    · split at h
      · rename_i hc
        cases h
        exact lv_icmp_gt hx hb hd ht (fun _ => (kk _ _ _ hL hW hS)) (fun q => absurd hc q)
      · rename_i hc
        cases h
        exact lv_icmp_gt hx hb hd ht (fun q => absurd q hc) (fun _ => (kk _ _ _ hL hW hS))
    · split at h
      · rename_i hc
        cases h
        exact lv_icmp_le hx hb hd ht (fun _ => (kk _ _ _ hL hW hS)) (fun q => absurd hc q)
      · rename_i hc
        cases h
        exact lv_icmp_le hx hb hd ht (fun q => absurd q hc) (fun _ => (kk _ _ _ hL hW hS))
  · -- goto
    replace h := pz_g1_inv h; obtain ⟨rfl, h⟩ := h
    replace h := pz_j_inv h; obtain ⟨tgt, ht, h⟩ := h
    cases h
    exact lv_goto hx hb hd ht (kk _ _ _ hL hW hS)
  · -- ifnull
    replace h := pz_g1_inv h; obtain ⟨rfl, h⟩ := h
    replace h := pz_sv_inv h; obtain ⟨v, r, rfl, h⟩ := h
    replace h := pz_j_inv h; obtain ⟨tgt, ht, h⟩ := h
    split at h
    · cases h
      exact lv_ifnullN hx hb hd ht (kk _ _ _ hL hW hS)
    · cases h
      exact lv_ifnull hx hb hd (kk _ _ _ hL hW hS)
    · cases h
  · -- ifnonnull
    replace h := pz_g1_inv h; obtain ⟨rfl, h⟩ := h
    replace h := pz_sv_inv h; obtain ⟨v, r, rfl, h⟩ := h
    replace h := pz_j_inv h; obtain ⟨tgt, ht, h⟩ := h
    split at h
    · cases h
      exact lv_ifnonnullN hx hb hd (kk _ _ _ hL hW hS)
    · cases h
      exact lv_ifnonnull hx hb hd ht (kk _ _ _ hL hW hS)
    · cases h
  · -- tableswitch
    replace h := pz_si_inv h; obtain ⟨x, r, rfl, h⟩ := h
    split at h
    · rename_i hc
      replace h := pz_j_inv h; obtain ⟨tgt, ht, h⟩ := h
      cases h
      exact lv_tableOut hx hb hd hc ht (kk _ _ _ hL hW hS)
    · rename_i hc
      split at h
      · rename_i off ho
        replace h := pz_j_inv h; obtain ⟨tgt, ht, h⟩ := h
        cases h
        exact lv_tableIn hx hb hd (fun q => hc (Or.inl q)) (fun q => hc (Or.inr q)) ho ht (kk _ _ _ hL hW hS)
      · cases h
  · -- lookupswitch
    replace h := pz_si_inv h; obtain ⟨x, r, rfl, h⟩ := h
    split at h
    · rename_i hc
      replace h := pz_j_inv h; obtain ⟨tgt, ht, h⟩ := h
      cases h
      exact lv_lookup hx hb hd hc rfl ht (kk _ _ _ hL hW hS)
    · cases h
  · -- dup
    replace h := pz_g1_inv h; obtain ⟨rfl, h⟩ := h
    replace h := pz_sv_inv h; obtain ⟨v, r, rfl, h⟩ := h
    split at h
    · rename_i hc
      cases h
      exact lv_dup hx hb hd hc (kk _ _ _ hL hW hS)
    · cases h
  · -- dup2
    replace h := pz_g1_inv h; obtain ⟨rfl, h⟩ := h
    replace h := pz_svv_inv h; obtain ⟨v, w, r, rfl, h⟩ := h
    split at h
    · rename_i hc
      cases h
      exact lv_dup2_11 hx hb hd hc.1 hc.2 (kk _ _ _ hL hW hS)
    · cases h
  · -- dup_x1
    replace h := pz_g1_inv h; obtain ⟨rfl, h⟩ := h
    replace h := pz_svv_inv h; obtain ⟨v, w, r, rfl, h⟩ := h
    split at h
    · rename_i hc
      cases h
      exact lv_dup_x1 hx hb hd hc.1 hc.2 (kk _ _ _ hL hW hS)
    · cases h
  · -- pop
    replace h := pz_g1_inv h; obtain ⟨rfl, h⟩ := h
    replace h := pz_sv_inv h; obtain ⟨v, r, rfl, h⟩ := h
    split at h
    · rename_i hc
      cases h
      exact lv_pop hx hb hd hc (kk _ _ _ hL hW hS)
    · cases h
  · -- getfield
    replace h := pz_g1_inv h; obtain ⟨rfl, h⟩ := h
    replace h := pz_sr_inv h; obtain ⟨a, r, rfl, h⟩ := h
    split at h
    · rename_i q hq
      replace h := Option.bind_eq_some_iff.mp h; obtain ⟨v, hv, h⟩ := h
      cases h
      exact pz_getW hx hb hown hts hK hW hd hq hv (kk _ _ _ hL hW hS)
    · cases h
  · -- putfield
    replace h := pz_g1_inv h; obtain ⟨rfl, h⟩ := h
    replace h := pz_svr_inv h; obtain ⟨v, a, r, rfl, h⟩ := h
    split at h
    · rename_i q hq
      split at h
      · rename_i hc
        replace h := Option.bind_eq_some_iff.mp h; obtain ⟨v, hv, h⟩ := h
        cases h
        exact pz_putW hx hb hown hts hK hW hS hd hq hc.1 hc.2.1 hc.2.2 hv (fun H1 locs1 hW1 hS1 => kk _ _ _ hL hW1 hS1)
      · cases h
    · cases h
  · -- iaload
    replace h := pz_g1_inv h; obtain ⟨rfl, h⟩ := h
    replace h := pz_sir_inv h; obtain ⟨i, a, r, rfl, h⟩ := h
    replace h := Option.bind_eq_some_iff.mp h; obtain ⟨v, hv, h⟩ := h
    cases h
    obtain ⟨n0, g, ha, hin, rfl⟩ := pz_il_inv hv
    obtain ⟨fw, k0, -, hP, -, hk0, -⟩ := hW.at ha
    exact va_iald hx hb hK.1 hP k0 0 hk0 rfl hin hd (kk _ _ _ hL hW hS)
  · -- iastore
    replace h := pz_g1_inv h; obtain ⟨rfl, h⟩ := h
    replace h := pz_siir_inv h; obtain ⟨x, i, a, r, rfl, h⟩ := h
    replace h := Option.bind_eq_some_iff.mp h; obtain ⟨v, hv, h⟩ := h
    cases h
    obtain ⟨n0, g, ha, hin, rfl⟩ := pz_is_inv hv
    obtain ⟨fw, k0, hfw, hP, hD, hk0, hset⟩ := hW.at ha
    refine va_iast hx hb hK.1 hP hD hS k0 0 hk0 rfl hin hd (fun H1 locs1 hP1 hD1 hS1 => ?_)
    rw [hset] at hP1 hD1
    exact kk _ _ _ hL (pz_W.to ha hfw hP1 hD1) hS1
  · -- baload
    replace h := pz_g1_inv h; obtain ⟨rfl, h⟩ := h
    replace h := pz_sir_inv h; obtain ⟨i, a, r, rfl, h⟩ := h
    replace h := Option.bind_eq_some_iff.mp h; obtain ⟨v, hv, h⟩ := h
    cases h
    obtain ⟨n0, g, ha, hin, rfl⟩ := pz_il_inv hv
    obtain ⟨fw, k0, -, hP, -, hk0, -⟩ := hW.at ha
    exact va_zald hx hb hK.1 hP k0 1 hk0 rfl hin hd (kk _ _ _ hL hW hS)
  · -- bastore
    replace h := pz_g1_inv h; obtain ⟨rfl, h⟩ := h
    replace h := pz_siir_inv h; obtain ⟨x, i, a, r, rfl, h⟩ := h
    replace h := Option.bind_eq_some_iff.mp h; obtain ⟨v, hv, h⟩ := h
    cases h
    obtain ⟨n0, g, ha, hin, rfl⟩ := pz_is_inv hv
    obtain ⟨fw, k0, hfw, hP, hD, hk0, hset⟩ := hW.at ha
    refine va_zast hx hb hK.1 hP hD hS k0 1 hk0 rfl hin hd (fun H1 locs1 hP1 hD1 hS1 => ?_)
    rw [hset] at hP1 hD1
    exact kk _ _ _ hL (pz_W.to ha hfw hP1 hD1) hS1
  · -- aaload
    replace h := pz_g1_inv h; obtain ⟨rfl, h⟩ := h
    replace h := pz_sir_inv h; obtain ⟨i, a, r, rfl, h⟩ := h
    replace h := Option.bind_eq_some_iff.mp h; obtain ⟨v, hv, h⟩ := h
    cases h
    obtain ⟨t, n0, g, ht, ha, hin, rfl⟩ := pz_rl_inv hv
    obtain ⟨fw, k0, -, hP, -, hk0, -⟩ := hW.at ha
    obtain ⟨C, hC⟩ := pz_ty_r (dA := dA) ht
    exact va_aldq hx hb hK.1 hP k0 t hk0 hC hin hd (kk _ _ _ hL hW hS)
  · -- aastore
    replace h := pz_g1_inv h; obtain ⟨rfl, h⟩ := h
    replace h := pz_srir_inv h; obtain ⟨q, i, a, r, rfl, h⟩ := h
    replace h := Option.bind_eq_some_iff.mp h; obtain ⟨v, hv, h⟩ := h
    cases h
    obtain ⟨n0, g, ci, fs, hct, ha, hq, hin, rfl⟩ := pz_rs_inv hv
    obtain ⟨fw, k0, hfw, hP, hD, hk0, hset⟩ := hW.at ha
    obtain ⟨hql, hqe⟩ := hfw q _ hq
    obtain ⟨k1, hk1⟩ := va_pl_get (X := []) (f := fw) hql
    have hk1 : (va_pl L fw)[k1]? = some (q, .inr (ci, fs)) := by rw [← hqe]; exact hk1
    obtain ⟨r0, hr0, -⟩ := hP k1 _ hk1
    refine va_astq hx hb hK.1 hP hD hS k0 (pz_ct ci) k1 ci hk0 (pz_ty_s hct hr0) hk1 hr0 hin hd (fun H1 locs1 hP1 hD1 hS1 => ?_)
    rw [hset] at hP1 hD1
    exact kk _ _ _ hL (pz_W.to ha hfw hP1 hD1) hS1
  · -- invokestatic
    replace h := pz_g1_inv h; obtain ⟨rfl, h⟩ := h
    split at h
    · rename_i hc
      replace h := pz_sii_inv h; obtain ⟨x, y, r, rfl, h⟩ := h
      split at h
      · rename_i hr
        cases h
        obtain ⟨w1, w2, w3, w4⟩ := pz_mx_ok hc
        exact va_mmax hx hb (by rw [hml]; exact hL.1.symm) hown (hts _ w1) (hts _ w2) (hts _ w3) (hts _ w4) hR.1 (by have := pz_cat r; omega) hR.2.2.1 hR.2.2.2 hd (kk _ _ _ hL hW hS)
      · cases h
    · split at h
      · rename_i hc
        replace h := pz_sii_inv h; obtain ⟨x, y, r, rfl, h⟩ := h
        split at h
        · rename_i hr
          cases h
          obtain ⟨w1, w2, w3, w4⟩ := pz_mn_ok hc
          exact va_mmin hx hb (by rw [hml]; exact hL.1.symm) hown (hts _ w1) (hts _ w2) (hts _ w3) (hts _ w4) hR.1 (by have := pz_cat r; omega) hR.2.2.1 hR.2.2.2 hd (kk _ _ _ hL hW hS)
        · cases h
      · cases h
  · -- default
    cases h
end PZS
end
section
/-! the pure machine is the machine: calls, ends, whole methods -/
def pz_rm (d : Nat) : Room := { frames := d + 1, cells := 0, slots := 0, locals := 32 * (d + 1) }
def pz_wk (k : Nat) : List Jvm.Cond := .code (pz_y k) (pz_b k) (pz_n k) (pz_ret k) :: pz_ws
def pz_Pc (dA dC : Nat → ClassId) (dI : Nat → Nat → Nat) (L : List Nat) (as : List Value) (f : pz_F) : Array Value → State → Prop := va_Pc as (fun U => pz_W dC dI L f U.heap ∧ pz_K dA dC dI U)
def pz_Qc (dC : Nat → ClassId) (dI : Nat → Nat → Nat) (L : List Nat) (Q : Option Value → pz_F → Prop) : Array Value → State → Outcome → State → Prop := fun _ st oc t => (∃ r f', oc = .returned r ∧ Q r f' ∧ pz_W dC dI L f' t.heap) ∧ va_F (fun q => q ∈ L) st t
theorem pz_good (k : Nat) (hk : Jvm.Cond.code (pz_y k) (pz_b k) (pz_n k) (pz_ret k) ∈ pz_ws) : GoodIn pz_ws (pz_wk k) := by
  intro w hw
  have h : w ∈ pz_ws := by
    rcases List.mem_cons.mp hw with rfl | h
    · exact hk
    · exact h
  exact ⟨h, pz_ws_good w h⟩
theorem pz_K.warm {dA dC : Nat → ClassId} {dI : Nat → Nat → Nat} {s U : State} (hW : s.WarmedH U.vm) (h : pz_K dA dC dI s) : pz_K dA dC dI U := ⟨va_K.moved hW.alike h.1, fun w hw => pz_nw_warm hW w hw (h.2 w hw)⟩
theorem pz_K.same {dA dC : Nat → ClassId} {dI : Nat → Nat → Nat} {s U : State} (hv : s.vm = U.vm) (h : pz_K dA dC dI s) : pz_K dA dC dI U := ⟨va_K.moved (by rw [hv]; exact Vm.Alike.refl U.vm) h.1, fun w hw => (h.2 w hw).same (pz_nw_tab w hw) hv⟩
theorem pz_blind {dA dC : Nat → ClassId} {dI : Nat → Nat → Nat} {L : List Nat} {as : List Value} {f : pz_F} : FrameBlind (pz_Pc dA dC dI L as f) := by
  intro a U g mk q
  obtain ⟨q0, q1, q2⟩ := q
  exact ⟨q0, q1, pz_K.same (s := U) (U := U.calling g mk a) rfl q2⟩
theorem pz_lc_L {k : Nat} {as : List Value} (hp : as.all (fun v => v.category == 1 && v != .retAddr 0) = true) (hn : as.length ≤ pz_n k) : (lg_sl as).length ≤ pz_n k ∧ pz_L (pz_n k) (pz_lc k as) ((lg_sl as ++ List.replicate (pz_n k - (lg_sl as).length) Slot.unset).toArray) := by
  have h1 : ∀ (as : List Value), as.all (fun v => v.category == 1 && v != .retAddr 0) = true → (lg_sl as).length = as.length := by
    intro as
    induction as with
    | nil => intro _; rfl
    | cons v as ih =>
      intro h
      simp only [List.all_cons, Bool.and_eq_true, beq_iff_eq, bne_iff_ne, ne_eq] at h
      have h2 := ih h.2
      simp only [lg_sl, List.flatMap_cons, List.length_append, List.length_cons] at h2 ⊢
      rw [if_neg (by omega), h2]
      simp
      omega
  have h2 : ∀ (as : List Value) (j : Nat), as.all (fun v => v.category == 1 && v != .retAddr 0) = true → ∀ i v, as[i]? = some v → (j + i, v) ∈ lv_args j as := by
    intro as
    induction as with
    | nil => intro j _ i v h; simp at h
    | cons w as ih =>
      intro j h i v hi
      simp only [List.all_cons, Bool.and_eq_true, beq_iff_eq, bne_iff_ne, ne_eq] at h
      cases i with
      | zero =>
        simp only [List.getElem?_cons_zero, Option.some.injEq] at hi
        subst hi
        exact List.mem_cons_self
      | succ i =>
        rw [List.getElem?_cons_succ] at hi
        have h3 := ih (j + 1) h.2 i v hi
        simp only [lv_args]
        rw [if_neg (by omega)]
        refine List.mem_cons_of_mem _ ?_
        have e : j + (i + 1) = j + 1 + i := by omega
        rw [e]
        exact h3
  have hl : (lg_sl as).length ≤ pz_n k := by rw [h1 as hp]; exact hn
  have hh := lv_entry as hl
  refine ⟨hl, hh.1, hh.2.1, by simp [pz_lc]; omega, fun i v hi hv => ?_⟩
  unfold pz_lc at hi
  by_cases hia : i < as.length
  · rw [List.getElem?_append_left hia] at hi
    have h4 := h2 as 0 hp i v hi
    rw [Nat.zero_add] at h4
    have h5 := List.all_eq_true.mp hp v (List.mem_of_getElem? hi)
    simp only [Bool.and_eq_true, beq_iff_eq, bne_iff_ne, ne_eq] at h5
    exact ⟨h5.1, hh.2.2 _ h4⟩
  · rw [List.getElem?_append_right (by omega)] at hi
    exact absurd (List.eq_of_mem_replicate (List.mem_of_getElem? hi)) hv
theorem pz_pk_all : ∀ (bs : List Bool) (as : List Value), pz_pk bs as = true → as.length = bs.length ∧ as.all (fun v => v.category == 1 && v != .retAddr 0) = true
  | [], [], _ => ⟨rfl, rfl⟩
  | true :: bs, .int x :: vs, h => by
    obtain ⟨h1, h2⟩ := pz_pk_all bs vs h
    exact ⟨by simp [h1], by simp [List.all_cons, Value.category] at h2 ⊢; exact h2⟩
  | false :: bs, .ref x :: vs, h => by
    obtain ⟨h1, h2⟩ := pz_pk_all bs vs h
    exact ⟨by simp [h1], by simp [List.all_cons, Value.category] at h2 ⊢; exact h2⟩
section PZC
variable {p : Program} {l : Launch} {e : Env} {R : Room} {s : State} {m : MethodId} {args : Array Value} {below : List Frame} {meth : Method} {c : Code} {H H0 : Heap} {locs : List Loc} {cells slots : Nat} {Q : State → Prop}
variable {dA dC : Nat → ClassId} {dI : Nat → Nat → Nat} {L : List Nat}
/-- behind a call -/
theorem pz_behind {pc : Nat} {ls : Array Slot} {st0 rest : List Value} {a : Array Value} {Q1 : Option Value → pz_F → Prop} (hr : va_Run p l e R s m args below meth c H locs cells slots 0 0 (F0 m pc ls st0) rest (pz_Qc dC dI L Q1 a) (fun q => q ∈ L)) (hS : va_S (fun q => q ∈ L) H0 H locs)
    (kk : ∀ (r : Option Value) (f' : pz_F) (H1 : Heap) (locs1 : List Loc), Q1 r f' → pz_W dC dI L f' H1 → va_S (fun q => q ∈ L) H0 H1 locs1 → W p l e R s m args below meth c H1 locs1 cells slots Q (F0 m (pc + 3) ls (r.toList ++ rest))) : W p l e R s m args below meth c H locs cells slots Q (F0 m pc ls st0) := by
  intro T hT X
  obtain ⟨v, st₀, t, T', Ls, h0, X', hL, e1, e2, ⟨⟨r, f', hv, hq, hw⟩, hz, hk⟩, st⟩ := hr T hT X
  cases hv
  rw [h0] at hz hk
  obtain ⟨t2, a1, b1⟩ := kk v f' T'.heap (locs ++ Ls) hq (by rw [e1]; exact hw)
    ⟨Nat.le_trans hS.1 (by rw [e1]; exact hz), fun q h1 h2 => by rw [e1, hk q (Nat.lt_of_lt_of_le h1 hS.1) h2]; exact hS.2.1 q h1 h2, fun q hq => by
      rcases List.mem_append.mp hq with h | h
      · exact hS.2.2 q h
      · exact hL q h⟩ T' rfl X'
  exact ⟨t2, st t2 a1, b1⟩
end PZC
/-- what soundness to depth d says -/
def pz_Snd (dA dC : Nat → ClassId) (dI : Nat → Nat → Nat) (L : List Nat) (l : Launch) (d : Nat) : Prop := ∀ (k pc : Nat) (ls st : List Value) (f : pz_F) (Qp : Option Value → pz_F → Prop), pz_R dA d k pc ls st f Qp → ∀ (p : Program) (e : Env) (R : Room) (s : State) (m : MethodId) (args : Array Value) (below : List Frame) (meth : Method) (c : Code) (H : Heap) (locs : List Loc) (lsA : Array Slot),
  p.tables.exec = Jvm.exec → c.code = pz_b k → c.maxLocals = pz_n k → s.vm.findClass (pz_on (pz_kc k)) = some m.cls → (∀ w ∈ pz_ws, w.before args s = true) → pz_K dA dC dI s → (d + 1 ≤ R.frames ∧ 32 * (d + 1) ≤ R.locals) → meth.sig.returnType = pz_ret k → meth.locks = false →
  pz_L (pz_n k) ls lsA → pz_W dC dI L f H → va_S (fun q => q ∈ L) s.heap H locs → W p l e R s m args below meth c H locs 0 0 (MQ below (pz_Qc dC dI L Qp) args s 0 0 (fun q => q ∈ L)) (F0 m pc lsA st)
theorem pz_metOf {dA dC : Nat → ClassId} {dI : Nat → Nat → Nat} {L : List Nat} {l : Launch} {d k : Nat} (hs : pz_Snd dA dC dI L l d) (hk : pz_kok k) {as : List Value} {f : pz_F} {Q : Option Value → pz_F → Prop} (hp : as.all (fun v => v.category == 1 && v != .retAddr 0) = true) (hn : as.length ≤ pz_n k) (h : pz_C dA d k as f Q) : Met l (pz_y k) (pz_wk k) (pz_rm d) (pz_Pc dA dC dI L as f) (pz_Qc dC dI L Q) 0 0 (fun q => q ∈ L) := by
  refine Met.ofW (cc := pz_b k) (maxL := pz_n k) (ret := pz_ret k) hk.1 rfl ?_
  intro p e s m args below meth c s₁ B hml hv
  obtain ⟨rfl, hW, hK⟩ := hv
  have hts := atoms_spec (ws := pz_wk k) B.pre
  have hown : s.vm.findClass (pz_y k).cls = some m.cls := findClass_of_methodNamed B.named
  rw [hk.2.1] at hown
  rw [lg_entry_eq]
  obtain ⟨h1, h2⟩ := pz_lc_L hp hn
  exact hs k 0 _ _ f Q h p e _ s m _ below meth c s.heap [] _ B.exec B.bytes hml hown (fun w hw => hts w (List.mem_cons_of_mem _ hw)) hK ⟨Nat.le_refl _, Nat.le_refl _⟩ B.returns B.notSynchronized h2 hW va_S.rf
section PZD
variable {p : Program} {l : Launch} {e : Env} {R : Room} {s : State} {m : MethodId} {args : Array Value} {below : List Frame} {meth : Method} {c : Code} {H H0 : Heap} {locs : List Loc} {Q : State → Prop}
variable {dA dC : Nat → ClassId} {dI : Nat → Nat → Nat} {L : List Nat} {k pc : Nat} {lsA : Array Slot} {ls st : List Value} {f : pz_F}
set_option maxHeartbeats 4000000 in
theorem pz_callW {d k' : Nat} {as rest : List Value} {Q1 : Option Value → pz_F → Prop} (hx : p.tables.exec = Jvm.exec) (hb : c.code = pz_b k) (hml : c.maxLocals = pz_n k) (hown : s.vm.findClass (pz_on (pz_kc k)) = some m.cls) (hts : ∀ w ∈ pz_ws, w.before args s = true) (hK : pz_K dA dC dI s) (hR : d + 2 ≤ R.frames ∧ 32 * (d + 2) ≤ R.locals)
    (hz : pz_stp dA k pc ls st f = some (.inr (.inl (k', as, rest)))) (hsn : pz_Snd dA dC dI L l d) (hC : pz_C dA d k' as f Q1) (hL : pz_L (pz_n k) ls lsA) (hW : pz_W dC dI L f H) (hS : va_S (fun q => q ∈ L) H0 H locs)
    (kk : ∀ (r : Option Value) (f' : pz_F) (H1 : Heap) (locs1 : List Loc), Q1 r f' → pz_W dC dI L f' H1 → va_S (fun q => q ∈ L) H0 H1 locs1 → W p l e R s m args below meth c H1 locs1 0 0 Q (F0 m (pc + 3) lsA (r.toList ++ rest))) : W p l e R s m args below meth c H locs 0 0 Q (F0 m pc lsA st) := by
  obtain ⟨idx, hm, hlen, As, hpk, hcase⟩ := pz_stp_c hz
  obtain ⟨hlink, hkok⟩ := pz_mth_ok hm
  obtain ⟨hpl, hcn, hnh, hpd, hn13, hcode, hini, hvir, hsta⟩ := hkok
  obtain ⟨hal, hall⟩ := pz_pk_all _ _ hpk
  have hroom : (rest.map fun v => v.category).sum ≤ 8 := by have := pz_cat rest; omega
  have hF : (pz_rm d).frames + 1 ≤ R.frames ∧ 8 + (pz_n k' + 11) + (pz_rm d).locals ≤ R.locals := by
    refine ⟨hR.1, ?_⟩
    show 8 + (pz_n k' + 11) + 32 * (d + 1) ≤ R.locals
    omega
  have hpar : ∀ sig, parseMethodDescriptor (pz_y k').desc = some sig → As.length = sig.parameters.length := by
    intro sig hsig
    rw [hsig] at hpd
    rw [hal]
    exact (Option.some.inj hpd).symm
  have hpay := pay_in hts (pz_good k' hcode)
  have hcm : Jvm.Cond.code (pz_y k') (pz_b k') (pz_n k') (pz_ret k') ∈ pz_wk k' := List.mem_cons_self
  rcases hcase with ⟨hd, hvi, b, fs, rfl, rfl, hbf⟩ | ⟨hd, hvi, rfl, rfl⟩
  · obtain ⟨hinst, hsel, T, N, hcls, hnk⟩ := hvir hvi
    have hobj : ∃ cellB : Cell, H[b]? = some cellB ∧ cellB.vm.isStatics = false ∧ s.vm.findClass (pz_y k').cls = some cellB.cls := by
      obtain ⟨fw, k0, -, hP, -, hk0, -⟩ := hW.at hbf
      exact va_recv hK.1 hP hcls hk0
    have hM := pz_metOf hsn ⟨hpl, hcn, hnh, hpd, hn13, hcode, hini, hvir, hsta⟩ (as := .ref b :: As) (by simp only [List.all_cons, Bool.and_eq_true]; exact ⟨⟨rfl, rfl⟩, hall⟩) (by simp only [List.length_cons]; omega) hC
    have hpre : PreV s H (pz_y k').cls b (pz_Pc dA dC dI L (.ref b :: As) f) As := ⟨pz_blind, hobj, fun U hU hWm => ⟨rfl, by rw [hU]; exact hW, hK.warm hWm⟩⟩
    rcases hlink with hlink | ⟨host, hlink⟩
    · exact pz_behind (va_runV (cc := pz_b k) (nL := pz_n k) (n := As.length) (Ts := pz_ws) ⟨hx, hb, hml, hown, hts⟩ hM ⟨⟨rfl, rfl, hF.1, hF.2, hpay, hcm, hts _ hcode, hts _ hini, hnh, hpar, hts _ hlink⟩, hts _ hinst, hts _ hsel⟩ hpre rfl rfl hL.1 rfl (lv_room hroom) hd ⟨Nat.zero_le _, Nat.zero_le _⟩) hS kk
    · exact pz_behind (va_runVN (cc := pz_b k) (nL := pz_n k) (n := As.length) (Ts := pz_ws) (host := host) ⟨hx, hb, hml, hown, hts⟩ hM ⟨⟨⟨rfl, rfl, hF.1, hF.2, hpay, hcm⟩, hts _ hcode, hts _ hini, hnh, hpar, va_Nw.use rfl (hK.2 _ hlink)⟩, hts _ hinst, hts _ hsel⟩ hpre rfl rfl hL.1 rfl (lv_room hroom) hd ⟨Nat.zero_le _, Nat.zero_le _⟩) hS kk
  · obtain ⟨hstat, hnk⟩ := hsta hvi
    have hM := pz_metOf hsn ⟨hpl, hcn, hnh, hpd, hn13, hcode, hini, hvir, hsta⟩ hall (by omega) hC
    have hpre : PreS s H (pz_Pc dA dC dI L as f) as := ⟨pz_blind, fun U hU hWm => ⟨rfl, by rw [hU]; exact hW, hK.warm hWm⟩⟩
    rcases hlink with hlink | ⟨host, hlink⟩
    · exact pz_behind (va_runS (cc := pz_b k) (nL := pz_n k) (n := as.length) (Ts := pz_ws) ⟨hx, hb, hml, hown, hts⟩ hM ⟨⟨rfl, rfl, hF.1, hF.2, hpay, hcm, hts _ hcode, hts _ hini, hnh, hpar, hts _ hlink⟩, hts _ hstat⟩ hpre rfl rfl hL.1 rfl (lv_room hroom) hd ⟨Nat.zero_le _, Nat.zero_le _⟩) hS kk
    · exact pz_behind (va_runSN (cc := pz_b k) (nL := pz_n k) (n := as.length) (Ts := pz_ws) (host := host) ⟨hx, hb, hml, hown, hts⟩ hM ⟨⟨⟨rfl, rfl, hF.1, hF.2, hpay, hcm⟩, hts _ hcode, hts _ hini, hnh, hpar, va_Nw.use rfl (hK.2 _ hlink)⟩, hts _ hstat, trivial⟩ hpre rfl rfl hL.1 rfl (lv_room hroom) hd ⟨Nat.zero_le _, Nat.zero_le _⟩) hS kk
theorem pz_retW {Qp : Option Value → pz_F → Prop} {v : Option Value} (hx : p.tables.exec = Jvm.exec) (hb : c.code = pz_b k) (hr : meth.sig.returnType = pz_ret k) (hlk : meth.locks = false)
    (hz : pz_stp dA k pc ls st f = some (.inr (.inr v))) (hq : Qp v f) (hW : pz_W dC dI L f H) (hS : va_S (fun q => q ∈ L) s.heap H locs) : W p l e R s m args below meth c H locs 0 0 (MQ below (pz_Qc dC dI L Qp) args s 0 0 (fun q => q ∈ L)) (F0 m pc lsA st) := by
  rcases pz_stp_r hz with ⟨x, ty, hd, rfl, rfl, hty, hn⟩ | ⟨y, n, hd, rfl, rfl, hty, hy⟩ | ⟨hd, rfl, rfl, hty⟩
  · exact W.zret hx hb (hr.trans hty) hn (fun t ht hWm => ⟨⟨_, f, rfl, hq, by rw [ht]; exact hW⟩, hS.F ht⟩) hS.2.2 hd hlk
  · exact W.aret hx hb (hr.trans hty) (Or.inl ⟨n, rfl⟩) hy (fun t ht hWm => ⟨⟨_, f, rfl, hq, by rw [ht]; exact hW⟩, hS.F ht⟩) hS.2.2 hd hlk
  · exact W.vret hx hb (hr.trans hty) (fun t ht hWm => ⟨⟨_, f, rfl, hq, by rw [ht]; exact hW⟩, hS.F ht⟩) hS.2.2 hd hlk
end PZD
theorem pz_snd (dA dC : Nat → ClassId) (dI : Nat → Nat → Nat) (L : List Nat) (l : Launch) : ∀ d, pz_Snd dA dC dI L l d := by
  intro d
  induction d with
  | zero =>
    intro k pc ls st f Qp h p e R s m args below meth c H locs lsA hx hb hml hown hts hK hR hr hlk hL hW hS
    have h : pz_lf dA (pz_Cd dA 0) Qp k pc ls st f := h
    refine h (fun pc ls st f => ∀ (H : Heap) (locs : List Loc) (lsA : Array Slot), pz_L (pz_n k) ls lsA → pz_W dC dI L f H → va_S (fun q => q ∈ L) s.heap H locs → W p l e R s m args below meth c H locs 0 0 (MQ below (pz_Qc dC dI L Qp) args s 0 0 (fun q => q ∈ L)) (F0 m pc lsA st)) ?_ H locs lsA hL hW hS
    intro pc ls st f hw H locs lsA hL hW hS
    generalize hz : pz_stp dA k pc ls st f = z at hw
    match z, hz, hw with
    | some (.inl (pc', ls', st', f')), hz, hw => exact pz_step hx hb hml hown hts hK ⟨by omega, by omega, Nat.zero_le _, Nat.zero_le _⟩ hz hL hW hS hw
    | some (.inr (.inl c)), hz, hw => exact hw.elim
    | some (.inr (.inr v)), hz, hw => exact pz_retW hx hb hr hlk hz hw hW hS
  | succ d ih =>
    intro k pc ls st f Qp h p e R s m args below meth c H locs lsA hx hb hml hown hts hK hR hr hlk hL hW hS
    have h : pz_lf dA (pz_Cd dA (d + 1)) Qp k pc ls st f := h
    refine h (fun pc ls st f => ∀ (H : Heap) (locs : List Loc) (lsA : Array Slot), pz_L (pz_n k) ls lsA → pz_W dC dI L f H → va_S (fun q => q ∈ L) s.heap H locs → W p l e R s m args below meth c H locs 0 0 (MQ below (pz_Qc dC dI L Qp) args s 0 0 (fun q => q ∈ L)) (F0 m pc lsA st)) ?_ H locs lsA hL hW hS
    intro pc ls st f hw H locs lsA hL hW hS
    generalize hz : pz_stp dA k pc ls st f = z at hw
    match z, hz, hw with
    | some (.inl (pc', ls', st', f')), hz, hw => exact pz_step hx hb hml hown hts hK ⟨by omega, by omega, Nat.zero_le _, Nat.zero_le _⟩ hz hL hW hS hw
    | some (.inr (.inl (k', as, rest))), hz, hw => exact pz_callW hx hb hml hown hts hK hR hz ih hw hL hW hS (fun r f' H1 locs1 h1 h2 h3 => h1 H1 locs1 lsA hL h2 h3)
    | some (.inr (.inr v)), hz, hw => exact pz_retW hx hb hr hlk hz hw hW hS
/-- a method's contract out of its pure run -/
theorem pz_met {dA dC : Nat → ClassId} {dI : Nat → Nat → Nat} {L : List Nat} {l : Launch} {d k : Nat} (hk : pz_kok k) {as : List Value} {f : pz_F} {Q : Option Value → pz_F → Prop} (hp : as.all (fun v => v.category == 1 && v != .retAddr 0) = true) (hn : as.length ≤ pz_n k) (h : pz_C dA d k as f Q) : Met l (pz_y k) (pz_wk k) (pz_rm d) (pz_Pc dA dC dI L as f) (pz_Qc dC dI L Q) 0 0 (fun q => q ∈ L) := pz_metOf (pz_snd dA dC dI L l d) hk hp hn h
end
