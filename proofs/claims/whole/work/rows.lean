section
-- ===== PART A: goes FIRST, ahead of the names: the tables' words, and 'selects' of the private methods out of them =====
/-- a private method of a class that the tables say can be made, by its rows of tables_1 -/
def lw_okq (q : MethodName × Nat) : Prop := (q.1.cls ≠ "java/lang/invoke/MethodHandle" ∧ q.1.cls ≠ "java/lang/invoke/VarHandle") ∧ Cond.instantiable q.1.cls q.2 ∈ tables_1 ∧ Cond.privateMethod q.1 ∈ tables_1 ∧ Cond.instanceMethod q.1 ∈ tables_1
theorem lw_p0 : lw_okq (⟨"LeasePair$MessageList", "removeSentBefore", "(I)V"⟩, 3) := ⟨⟨by decide +kernel, by decide +kernel⟩, List.mem_of_getElem? (i := 121) (by decide +kernel), List.mem_of_getElem? (i := 235) (by decide +kernel), List.mem_of_getElem? (i := 236) (by decide +kernel)⟩
theorem lw_p1 : lw_okq (⟨"LeasePair$MessageList", "removeVanishing", "()V"⟩, 3) := ⟨⟨by decide +kernel, by decide +kernel⟩, List.mem_of_getElem? (i := 121) (by decide +kernel), List.mem_of_getElem? (i := 239) (by decide +kernel), List.mem_of_getElem? (i := 240) (by decide +kernel)⟩
theorem lw_p2 : lw_okq (⟨"LeasePair$MessageList", "swap", "(II)V"⟩, 3) := ⟨⟨by decide +kernel, by decide +kernel⟩, List.mem_of_getElem? (i := 121) (by decide +kernel), List.mem_of_getElem? (i := 243) (by decide +kernel), List.mem_of_getElem? (i := 244) (by decide +kernel)⟩
theorem lw_p3 : lw_okq (⟨"LeasePair$Client", "dropExpired", "(I)V"⟩, 5) := ⟨⟨by decide +kernel, by decide +kernel⟩, List.mem_of_getElem? (i := 95) (by decide +kernel), List.mem_of_getElem? (i := 247) (by decide +kernel), List.mem_of_getElem? (i := 248) (by decide +kernel)⟩
theorem lw_p4 : lw_okq (⟨"LeasePair$Client", "holdNone", "()V"⟩, 5) := ⟨⟨by decide +kernel, by decide +kernel⟩, List.mem_of_getElem? (i := 95) (by decide +kernel), List.mem_of_getElem? (i := 251) (by decide +kernel), List.mem_of_getElem? (i := 252) (by decide +kernel)⟩
theorem lw_p5 : lw_okq (⟨"LeasePair", "tickServer", "(LLeasePair$Server;)V"⟩, 5) := ⟨⟨by decide +kernel, by decide +kernel⟩, List.mem_of_getElem? (i := 10) (by decide +kernel), List.mem_of_getElem? (i := 255) (by decide +kernel), List.mem_of_getElem? (i := 256) (by decide +kernel)⟩
theorem lw_p6 : lw_okq (⟨"LeasePair", "hasContact", "()Z"⟩, 5) := ⟨⟨by decide +kernel, by decide +kernel⟩, List.mem_of_getElem? (i := 10) (by decide +kernel), List.mem_of_getElem? (i := 259) (by decide +kernel), List.mem_of_getElem? (i := 260) (by decide +kernel)⟩
theorem lw_p7 : lw_okq (⟨"LeasePair$Server", "followContact", "(ZI)V"⟩, 7) := ⟨⟨by decide +kernel, by decide +kernel⟩, List.mem_of_getElem? (i := 19) (by decide +kernel), List.mem_of_getElem? (i := 263) (by decide +kernel), List.mem_of_getElem? (i := 264) (by decide +kernel)⟩
theorem lw_p8 : lw_okq (⟨"LeasePair$Server", "isPastLead", "(I)Z"⟩, 7) := ⟨⟨by decide +kernel, by decide +kernel⟩, List.mem_of_getElem? (i := 19) (by decide +kernel), List.mem_of_getElem? (i := 267) (by decide +kernel), List.mem_of_getElem? (i := 268) (by decide +kernel)⟩
theorem lw_p9 : lw_okq (⟨"LeasePair$Server", "serves", "()Z"⟩, 7) := ⟨⟨by decide +kernel, by decide +kernel⟩, List.mem_of_getElem? (i := 19) (by decide +kernel), List.mem_of_getElem? (i := 271) (by decide +kernel), List.mem_of_getElem? (i := 272) (by decide +kernel)⟩
theorem lw_p10 : lw_okq (⟨"LeasePair$Server", "endExpired", "(I)V"⟩, 7) := ⟨⟨by decide +kernel, by decide +kernel⟩, List.mem_of_getElem? (i := 19) (by decide +kernel), List.mem_of_getElem? (i := 275) (by decide +kernel), List.mem_of_getElem? (i := 276) (by decide +kernel)⟩
theorem lw_p11 : lw_okq (⟨"LeasePair$LeaseRecord", "end", "()V"⟩, 8) := ⟨⟨by decide +kernel, by decide +kernel⟩, List.mem_of_getElem? (i := 26) (by decide +kernel), List.mem_of_getElem? (i := 279) (by decide +kernel), List.mem_of_getElem? (i := 280) (by decide +kernel)⟩
theorem lw_p12 : lw_okq (⟨"LeasePair$LeaseRecord", "change", "()V"⟩, 8) := ⟨⟨by decide +kernel, by decide +kernel⟩, List.mem_of_getElem? (i := 26) (by decide +kernel), List.mem_of_getElem? (i := 283) (by decide +kernel), List.mem_of_getElem? (i := 284) (by decide +kernel)⟩
theorem lw_p13 : lw_okq (⟨"LeasePair", "tellPartner", "(LLeasePair$Server;)V"⟩, 5) := ⟨⟨by decide +kernel, by decide +kernel⟩, List.mem_of_getElem? (i := 10) (by decide +kernel), List.mem_of_getElem? (i := 287) (by decide +kernel), List.mem_of_getElem? (i := 288) (by decide +kernel)⟩
theorem lw_p14 : lw_okq (⟨"LeasePair", "sendUpdates", "(LLeasePair$Server;)V"⟩, 5) := ⟨⟨by decide +kernel, by decide +kernel⟩, List.mem_of_getElem? (i := 10) (by decide +kernel), List.mem_of_getElem? (i := 291) (by decide +kernel), List.mem_of_getElem? (i := 292) (by decide +kernel)⟩
theorem lw_p15 : lw_okq (⟨"LeasePair", "sendUpdate", "(LLeasePair$Server;I)V"⟩, 5) := ⟨⟨by decide +kernel, by decide +kernel⟩, List.mem_of_getElem? (i := 10) (by decide +kernel), List.mem_of_getElem? (i := 295) (by decide +kernel), List.mem_of_getElem? (i := 296) (by decide +kernel)⟩
def lw_privs_1 : List (MethodName × Nat) := [(⟨"LeasePair$MessageList", "removeSentBefore", "(I)V"⟩, 3), (⟨"LeasePair$MessageList", "removeVanishing", "()V"⟩, 3), (⟨"LeasePair$MessageList", "swap", "(II)V"⟩, 3), (⟨"LeasePair$Client", "dropExpired", "(I)V"⟩, 5), (⟨"LeasePair$Client", "holdNone", "()V"⟩, 5), (⟨"LeasePair", "tickServer", "(LLeasePair$Server;)V"⟩, 5), (⟨"LeasePair", "hasContact", "()Z"⟩, 5), (⟨"LeasePair$Server", "followContact", "(ZI)V"⟩, 7), (⟨"LeasePair$Server", "isPastLead", "(I)Z"⟩, 7), (⟨"LeasePair$Server", "serves", "()Z"⟩, 7), (⟨"LeasePair$Server", "endExpired", "(I)V"⟩, 7), (⟨"LeasePair$LeaseRecord", "end", "()V"⟩, 8), (⟨"LeasePair$LeaseRecord", "change", "()V"⟩, 8), (⟨"LeasePair", "tellPartner", "(LLeasePair$Server;)V"⟩, 5), (⟨"LeasePair", "sendUpdates", "(LLeasePair$Server;)V"⟩, 5), (⟨"LeasePair", "sendUpdate", "(LLeasePair$Server;I)V"⟩, 5)]
theorem lw_r1 : ∀ q ∈ lw_privs_1, lw_okq q := List.forall_mem_cons.mpr ⟨lw_p0, List.forall_mem_cons.mpr ⟨lw_p1, List.forall_mem_cons.mpr ⟨lw_p2, List.forall_mem_cons.mpr ⟨lw_p3, List.forall_mem_cons.mpr ⟨lw_p4, List.forall_mem_cons.mpr ⟨lw_p5, List.forall_mem_cons.mpr ⟨lw_p6, List.forall_mem_cons.mpr ⟨lw_p7, List.forall_mem_cons.mpr ⟨lw_p8, List.forall_mem_cons.mpr ⟨lw_p9, List.forall_mem_cons.mpr ⟨lw_p10, List.forall_mem_cons.mpr ⟨lw_p11, List.forall_mem_cons.mpr ⟨lw_p12, List.forall_mem_cons.mpr ⟨lw_p13, List.forall_mem_cons.mpr ⟨lw_p14, List.forall_mem_cons.mpr ⟨lw_p15, fun _ h => absurd h List.not_mem_nil⟩⟩⟩⟩⟩⟩⟩⟩⟩⟩⟩⟩⟩⟩⟩⟩
theorem lw_p16 : lw_okq (⟨"LeasePair$MessageList", "append", "(IIII)LLeasePair$Message;"⟩, 3) := ⟨⟨by decide +kernel, by decide +kernel⟩, List.mem_of_getElem? (i := 121) (by decide +kernel), List.mem_of_getElem? (i := 299) (by decide +kernel), List.mem_of_getElem? (i := 300) (by decide +kernel)⟩
theorem lw_p17 : lw_okq (⟨"LeasePair", "sendDemand", "(LLeasePair$Server;)V"⟩, 5) := ⟨⟨by decide +kernel, by decide +kernel⟩, List.mem_of_getElem? (i := 10) (by decide +kernel), List.mem_of_getElem? (i := 303) (by decide +kernel), List.mem_of_getElem? (i := 304) (by decide +kernel)⟩
theorem lw_p18 : lw_okq (⟨"LeasePair$Client", "pauses", "(I)Z"⟩, 5) := ⟨⟨by decide +kernel, by decide +kernel⟩, List.mem_of_getElem? (i := 95) (by decide +kernel), List.mem_of_getElem? (i := 317) (by decide +kernel), List.mem_of_getElem? (i := 318) (by decide +kernel)⟩
theorem lw_p19 : lw_okq (⟨"LeasePair", "sendWithTicket", "(IIII)V"⟩, 5) := ⟨⟨by decide +kernel, by decide +kernel⟩, List.mem_of_getElem? (i := 10) (by decide +kernel), List.mem_of_getElem? (i := 321) (by decide +kernel), List.mem_of_getElem? (i := 322) (by decide +kernel)⟩
theorem lw_p20 : lw_okq (⟨"LeasePair$MessageList", "has", "(I)Z"⟩, 3) := ⟨⟨by decide +kernel, by decide +kernel⟩, List.mem_of_getElem? (i := 121) (by decide +kernel), List.mem_of_getElem? (i := 334) (by decide +kernel), List.mem_of_getElem? (i := 335) (by decide +kernel)⟩
theorem lw_p21 : lw_okq (⟨"LeasePair$MessageList", "take", "(I)LLeasePair$Message;"⟩, 3) := ⟨⟨by decide +kernel, by decide +kernel⟩, List.mem_of_getElem? (i := 121) (by decide +kernel), List.mem_of_getElem? (i := 338) (by decide +kernel), List.mem_of_getElem? (i := 339) (by decide +kernel)⟩
theorem lw_p22 : lw_okq (⟨"LeasePair", "canArrive", "(LLeasePair$Message;)Z"⟩, 5) := ⟨⟨by decide +kernel, by decide +kernel⟩, List.mem_of_getElem? (i := 10) (by decide +kernel), List.mem_of_getElem? (i := 342) (by decide +kernel), List.mem_of_getElem? (i := 343) (by decide +kernel)⟩
theorem lw_p23 : lw_okq (⟨"LeasePair$Message", "isBetweenServers", "()Z"⟩, 15) := ⟨⟨by decide +kernel, by decide +kernel⟩, List.mem_of_getElem? (i := 128) (by decide +kernel), List.mem_of_getElem? (i := 346) (by decide +kernel), List.mem_of_getElem? (i := 347) (by decide +kernel)⟩
theorem lw_p24 : lw_okq (⟨"LeasePair$Message", "goesToServer", "()Z"⟩, 15) := ⟨⟨by decide +kernel, by decide +kernel⟩, List.mem_of_getElem? (i := 128) (by decide +kernel), List.mem_of_getElem? (i := 350) (by decide +kernel), List.mem_of_getElem? (i := 351) (by decide +kernel)⟩
theorem lw_p25 : lw_okq (⟨"LeasePair", "arrive", "(LLeasePair$Message;)V"⟩, 5) := ⟨⟨by decide +kernel, by decide +kernel⟩, List.mem_of_getElem? (i := 10) (by decide +kernel), List.mem_of_getElem? (i := 354) (by decide +kernel), List.mem_of_getElem? (i := 355) (by decide +kernel)⟩
theorem lw_p26 : lw_okq (⟨"LeasePair", "arriveAsk", "(LLeasePair$Message;)V"⟩, 5) := ⟨⟨by decide +kernel, by decide +kernel⟩, List.mem_of_getElem? (i := 10) (by decide +kernel), List.mem_of_getElem? (i := 358) (by decide +kernel), List.mem_of_getElem? (i := 359) (by decide +kernel)⟩
theorem lw_p27 : lw_okq (⟨"LeasePair$Server", "choose", "(II)I"⟩, 7) := ⟨⟨by decide +kernel, by decide +kernel⟩, List.mem_of_getElem? (i := 19) (by decide +kernel), List.mem_of_getElem? (i := 362) (by decide +kernel), List.mem_of_getElem? (i := 363) (by decide +kernel)⟩
theorem lw_p28 : lw_okq (⟨"LeasePair$Server", "leastLentTo", "(I)I"⟩, 7) := ⟨⟨by decide +kernel, by decide +kernel⟩, List.mem_of_getElem? (i := 19) (by decide +kernel), List.mem_of_getElem? (i := 366) (by decide +kernel), List.mem_of_getElem? (i := 367) (by decide +kernel)⟩
theorem lw_p29 : lw_okq (⟨"LeasePair$LeaseRecord", "isLentTo", "(I)Z"⟩, 8) := ⟨⟨by decide +kernel, by decide +kernel⟩, List.mem_of_getElem? (i := 26) (by decide +kernel), List.mem_of_getElem? (i := 370) (by decide +kernel), List.mem_of_getElem? (i := 371) (by decide +kernel)⟩
theorem lw_p30 : lw_okq (⟨"LeasePair$Server", "leastFree", "(Z)I"⟩, 7) := ⟨⟨by decide +kernel, by decide +kernel⟩, List.mem_of_getElem? (i := 19) (by decide +kernel), List.mem_of_getElem? (i := 374) (by decide +kernel), List.mem_of_getElem? (i := 375) (by decide +kernel)⟩
theorem lw_p31 : lw_okq (⟨"LeasePair$Server", "leastLongPast", "(I)I"⟩, 7) := ⟨⟨by decide +kernel, by decide +kernel⟩, List.mem_of_getElem? (i := 19) (by decide +kernel), List.mem_of_getElem? (i := 378) (by decide +kernel), List.mem_of_getElem? (i := 379) (by decide +kernel)⟩
def lw_privs_2 : List (MethodName × Nat) := [(⟨"LeasePair$MessageList", "append", "(IIII)LLeasePair$Message;"⟩, 3), (⟨"LeasePair", "sendDemand", "(LLeasePair$Server;)V"⟩, 5), (⟨"LeasePair$Client", "pauses", "(I)Z"⟩, 5), (⟨"LeasePair", "sendWithTicket", "(IIII)V"⟩, 5), (⟨"LeasePair$MessageList", "has", "(I)Z"⟩, 3), (⟨"LeasePair$MessageList", "take", "(I)LLeasePair$Message;"⟩, 3), (⟨"LeasePair", "canArrive", "(LLeasePair$Message;)Z"⟩, 5), (⟨"LeasePair$Message", "isBetweenServers", "()Z"⟩, 15), (⟨"LeasePair$Message", "goesToServer", "()Z"⟩, 15), (⟨"LeasePair", "arrive", "(LLeasePair$Message;)V"⟩, 5), (⟨"LeasePair", "arriveAsk", "(LLeasePair$Message;)V"⟩, 5), (⟨"LeasePair$Server", "choose", "(II)I"⟩, 7), (⟨"LeasePair$Server", "leastLentTo", "(I)I"⟩, 7), (⟨"LeasePair$LeaseRecord", "isLentTo", "(I)Z"⟩, 8), (⟨"LeasePair$Server", "leastFree", "(Z)I"⟩, 7), (⟨"LeasePair$Server", "leastLongPast", "(I)I"⟩, 7)]
theorem lw_r2 : ∀ q ∈ lw_privs_2, lw_okq q := List.forall_mem_cons.mpr ⟨lw_p16, List.forall_mem_cons.mpr ⟨lw_p17, List.forall_mem_cons.mpr ⟨lw_p18, List.forall_mem_cons.mpr ⟨lw_p19, List.forall_mem_cons.mpr ⟨lw_p20, List.forall_mem_cons.mpr ⟨lw_p21, List.forall_mem_cons.mpr ⟨lw_p22, List.forall_mem_cons.mpr ⟨lw_p23, List.forall_mem_cons.mpr ⟨lw_p24, List.forall_mem_cons.mpr ⟨lw_p25, List.forall_mem_cons.mpr ⟨lw_p26, List.forall_mem_cons.mpr ⟨lw_p27, List.forall_mem_cons.mpr ⟨lw_p28, List.forall_mem_cons.mpr ⟨lw_p29, List.forall_mem_cons.mpr ⟨lw_p30, List.forall_mem_cons.mpr ⟨lw_p31, fun _ h => absurd h List.not_mem_nil⟩⟩⟩⟩⟩⟩⟩⟩⟩⟩⟩⟩⟩⟩⟩⟩
theorem lw_p32 : lw_okq (⟨"LeasePair$LeaseRecord", "isLongPast", "(I)Z"⟩, 8) := ⟨⟨by decide +kernel, by decide +kernel⟩, List.mem_of_getElem? (i := 26) (by decide +kernel), List.mem_of_getElem? (i := 382) (by decide +kernel), List.mem_of_getElem? (i := 383) (by decide +kernel)⟩
theorem lw_p33 : lw_okq (⟨"LeasePair$LeaseRecord", "lend", "(IIZ)V"⟩, 8) := ⟨⟨by decide +kernel, by decide +kernel⟩, List.mem_of_getElem? (i := 26) (by decide +kernel), List.mem_of_getElem? (i := 386) (by decide +kernel), List.mem_of_getElem? (i := 387) (by decide +kernel)⟩
theorem lw_p34 : lw_okq (⟨"LeasePair", "sendLease", "(LLeasePair$Message;II)V"⟩, 5) := ⟨⟨by decide +kernel, by decide +kernel⟩, List.mem_of_getElem? (i := 10) (by decide +kernel), List.mem_of_getElem? (i := 397) (by decide +kernel), List.mem_of_getElem? (i := 398) (by decide +kernel)⟩
theorem lw_p35 : lw_okq (⟨"LeasePair$Client", "takeLease", "(LLeasePair$Message;I)V"⟩, 5) := ⟨⟨by decide +kernel, by decide +kernel⟩, List.mem_of_getElem? (i := 95) (by decide +kernel), List.mem_of_getElem? (i := 401) (by decide +kernel), List.mem_of_getElem? (i := 402) (by decide +kernel)⟩
theorem lw_p36 : lw_okq (⟨"LeasePair$Client", "waitsFor", "(LLeasePair$Message;)Z"⟩, 5) := ⟨⟨by decide +kernel, by decide +kernel⟩, List.mem_of_getElem? (i := 95) (by decide +kernel), List.mem_of_getElem? (i := 405) (by decide +kernel), List.mem_of_getElem? (i := 406) (by decide +kernel)⟩
theorem lw_p37 : lw_okq (⟨"LeasePair$Client", "takeDenial", "(LLeasePair$Message;)V"⟩, 5) := ⟨⟨by decide +kernel, by decide +kernel⟩, List.mem_of_getElem? (i := 95) (by decide +kernel), List.mem_of_getElem? (i := 409) (by decide +kernel), List.mem_of_getElem? (i := 410) (by decide +kernel)⟩
theorem lw_p38 : lw_okq (⟨"LeasePair", "arriveRelease", "(LLeasePair$Message;)V"⟩, 5) := ⟨⟨by decide +kernel, by decide +kernel⟩, List.mem_of_getElem? (i := 10) (by decide +kernel), List.mem_of_getElem? (i := 413) (by decide +kernel), List.mem_of_getElem? (i := 414) (by decide +kernel)⟩
theorem lw_p39 : lw_okq (⟨"LeasePair", "arriveUpdate", "(LLeasePair$Message;)V"⟩, 5) := ⟨⟨by decide +kernel, by decide +kernel⟩, List.mem_of_getElem? (i := 10) (by decide +kernel), List.mem_of_getElem? (i := 419) (by decide +kernel), List.mem_of_getElem? (i := 420) (by decide +kernel)⟩
theorem lw_p40 : lw_okq (⟨"LeasePair$Server", "takeUpdate", "(LLeasePair$Message;I)Z"⟩, 7) := ⟨⟨by decide +kernel, by decide +kernel⟩, List.mem_of_getElem? (i := 19) (by decide +kernel), List.mem_of_getElem? (i := 423) (by decide +kernel), List.mem_of_getElem? (i := 424) (by decide +kernel)⟩
theorem lw_p41 : lw_okq (⟨"LeasePair$LeaseRecord", "takeUpdate", "(LLeasePair$Message;I)Z"⟩, 8) := ⟨⟨by decide +kernel, by decide +kernel⟩, List.mem_of_getElem? (i := 26) (by decide +kernel), List.mem_of_getElem? (i := 427) (by decide +kernel), List.mem_of_getElem? (i := 428) (by decide +kernel)⟩
theorem lw_p42 : lw_okq (⟨"LeasePair$LeaseRecord", "takeLent", "(LLeasePair$Message;I)Z"⟩, 8) := ⟨⟨by decide +kernel, by decide +kernel⟩, List.mem_of_getElem? (i := 26) (by decide +kernel), List.mem_of_getElem? (i := 431) (by decide +kernel), List.mem_of_getElem? (i := 432) (by decide +kernel)⟩
theorem lw_p43 : lw_okq (⟨"LeasePair$LeaseRecord", "runs", "(I)Z"⟩, 8) := ⟨⟨by decide +kernel, by decide +kernel⟩, List.mem_of_getElem? (i := 26) (by decide +kernel), List.mem_of_getElem? (i := 435) (by decide +kernel), List.mem_of_getElem? (i := 436) (by decide +kernel)⟩
theorem lw_p44 : lw_okq (⟨"LeasePair$LeaseRecord", "becomeLent", "(LLeasePair$Message;)V"⟩, 8) := ⟨⟨by decide +kernel, by decide +kernel⟩, List.mem_of_getElem? (i := 26) (by decide +kernel), List.mem_of_getElem? (i := 439) (by decide +kernel), List.mem_of_getElem? (i := 440) (by decide +kernel)⟩
theorem lw_p45 : lw_okq (⟨"LeasePair$LeaseRecord", "becomeFree", "(LLeasePair$Message;)V"⟩, 8) := ⟨⟨by decide +kernel, by decide +kernel⟩, List.mem_of_getElem? (i := 26) (by decide +kernel), List.mem_of_getElem? (i := 443) (by decide +kernel), List.mem_of_getElem? (i := 444) (by decide +kernel)⟩
theorem lw_p46 : lw_okq (⟨"LeasePair$LeaseRecord", "clear", "()V"⟩, 8) := ⟨⟨by decide +kernel, by decide +kernel⟩, List.mem_of_getElem? (i := 26) (by decide +kernel), List.mem_of_getElem? (i := 447) (by decide +kernel), List.mem_of_getElem? (i := 448) (by decide +kernel)⟩
theorem lw_p47 : lw_okq (⟨"LeasePair$Server", "hasGot", "(I)Z"⟩, 7) := ⟨⟨by decide +kernel, by decide +kernel⟩, List.mem_of_getElem? (i := 19) (by decide +kernel), List.mem_of_getElem? (i := 451) (by decide +kernel), List.mem_of_getElem? (i := 452) (by decide +kernel)⟩
def lw_privs_3 : List (MethodName × Nat) := [(⟨"LeasePair$LeaseRecord", "isLongPast", "(I)Z"⟩, 8), (⟨"LeasePair$LeaseRecord", "lend", "(IIZ)V"⟩, 8), (⟨"LeasePair", "sendLease", "(LLeasePair$Message;II)V"⟩, 5), (⟨"LeasePair$Client", "takeLease", "(LLeasePair$Message;I)V"⟩, 5), (⟨"LeasePair$Client", "waitsFor", "(LLeasePair$Message;)Z"⟩, 5), (⟨"LeasePair$Client", "takeDenial", "(LLeasePair$Message;)V"⟩, 5), (⟨"LeasePair", "arriveRelease", "(LLeasePair$Message;)V"⟩, 5), (⟨"LeasePair", "arriveUpdate", "(LLeasePair$Message;)V"⟩, 5), (⟨"LeasePair$Server", "takeUpdate", "(LLeasePair$Message;I)Z"⟩, 7), (⟨"LeasePair$LeaseRecord", "takeUpdate", "(LLeasePair$Message;I)Z"⟩, 8), (⟨"LeasePair$LeaseRecord", "takeLent", "(LLeasePair$Message;I)Z"⟩, 8), (⟨"LeasePair$LeaseRecord", "runs", "(I)Z"⟩, 8), (⟨"LeasePair$LeaseRecord", "becomeLent", "(LLeasePair$Message;)V"⟩, 8), (⟨"LeasePair$LeaseRecord", "becomeFree", "(LLeasePair$Message;)V"⟩, 8), (⟨"LeasePair$LeaseRecord", "clear", "()V"⟩, 8), (⟨"LeasePair$Server", "hasGot", "(I)Z"⟩, 7)]
theorem lw_r3 : ∀ q ∈ lw_privs_3, lw_okq q := List.forall_mem_cons.mpr ⟨lw_p32, List.forall_mem_cons.mpr ⟨lw_p33, List.forall_mem_cons.mpr ⟨lw_p34, List.forall_mem_cons.mpr ⟨lw_p35, List.forall_mem_cons.mpr ⟨lw_p36, List.forall_mem_cons.mpr ⟨lw_p37, List.forall_mem_cons.mpr ⟨lw_p38, List.forall_mem_cons.mpr ⟨lw_p39, List.forall_mem_cons.mpr ⟨lw_p40, List.forall_mem_cons.mpr ⟨lw_p41, List.forall_mem_cons.mpr ⟨lw_p42, List.forall_mem_cons.mpr ⟨lw_p43, List.forall_mem_cons.mpr ⟨lw_p44, List.forall_mem_cons.mpr ⟨lw_p45, List.forall_mem_cons.mpr ⟨lw_p46, List.forall_mem_cons.mpr ⟨lw_p47, fun _ h => absurd h List.not_mem_nil⟩⟩⟩⟩⟩⟩⟩⟩⟩⟩⟩⟩⟩⟩⟩⟩
theorem lw_p48 : lw_okq (⟨"LeasePair$LeaseRecord", "recover", "(LLeasePair$Message;I)Z"⟩, 8) := ⟨⟨by decide +kernel, by decide +kernel⟩, List.mem_of_getElem? (i := 26) (by decide +kernel), List.mem_of_getElem? (i := 455) (by decide +kernel), List.mem_of_getElem? (i := 456) (by decide +kernel)⟩
theorem lw_p49 : lw_okq (⟨"LeasePair$LeaseRecord", "isSameLease", "(LLeasePair$Message;)Z"⟩, 8) := ⟨⟨by decide +kernel, by decide +kernel⟩, List.mem_of_getElem? (i := 26) (by decide +kernel), List.mem_of_getElem? (i := 459) (by decide +kernel), List.mem_of_getElem? (i := 460) (by decide +kernel)⟩
theorem lw_p50 : lw_okq (⟨"LeasePair", "acknowledge", "(LLeasePair$Message;)V"⟩, 5) := ⟨⟨by decide +kernel, by decide +kernel⟩, List.mem_of_getElem? (i := 10) (by decide +kernel), List.mem_of_getElem? (i := 463) (by decide +kernel), List.mem_of_getElem? (i := 464) (by decide +kernel)⟩
theorem lw_p51 : lw_okq (⟨"LeasePair", "arriveAcknowledgement", "(LLeasePair$Message;)V"⟩, 5) := ⟨⟨by decide +kernel, by decide +kernel⟩, List.mem_of_getElem? (i := 10) (by decide +kernel), List.mem_of_getElem? (i := 467) (by decide +kernel), List.mem_of_getElem? (i := 468) (by decide +kernel)⟩
theorem lw_p52 : lw_okq (⟨"LeasePair$LeaseRecord", "takeAcknowledgement", "(LLeasePair$Message;)V"⟩, 8) := ⟨⟨by decide +kernel, by decide +kernel⟩, List.mem_of_getElem? (i := 26) (by decide +kernel), List.mem_of_getElem? (i := 471) (by decide +kernel), List.mem_of_getElem? (i := 472) (by decide +kernel)⟩
theorem lw_p53 : lw_okq (⟨"LeasePair", "arriveDemand", "(LLeasePair$Message;)V"⟩, 5) := ⟨⟨by decide +kernel, by decide +kernel⟩, List.mem_of_getElem? (i := 10) (by decide +kernel), List.mem_of_getElem? (i := 475) (by decide +kernel), List.mem_of_getElem? (i := 476) (by decide +kernel)⟩
theorem lw_p54 : lw_okq (⟨"LeasePair$Server", "markDirty", "(I)V"⟩, 7) := ⟨⟨by decide +kernel, by decide +kernel⟩, List.mem_of_getElem? (i := 19) (by decide +kernel), List.mem_of_getElem? (i := 479) (by decide +kernel), List.mem_of_getElem? (i := 480) (by decide +kernel)⟩
theorem lw_p55 : lw_okq (⟨"LeasePair$MessageList", "removeBetweenServers", "()V"⟩, 3) := ⟨⟨by decide +kernel, by decide +kernel⟩, List.mem_of_getElem? (i := 121) (by decide +kernel), List.mem_of_getElem? (i := 494) (by decide +kernel), List.mem_of_getElem? (i := 495) (by decide +kernel)⟩
theorem lw_p56 : lw_okq (⟨"LeasePair$Server", "beginRecovery", "(I)V"⟩, 7) := ⟨⟨by decide +kernel, by decide +kernel⟩, List.mem_of_getElem? (i := 19) (by decide +kernel), List.mem_of_getElem? (i := 503) (by decide +kernel), List.mem_of_getElem? (i := 504) (by decide +kernel)⟩
theorem lw_p57 : lw_okq (⟨"LeasePair", "partnerOf", "(LLeasePair$Server;)LLeasePair$Server;"⟩, 5) := ⟨⟨by decide +kernel, by decide +kernel⟩, List.mem_of_getElem? (i := 10) (by decide +kernel), List.mem_of_getElem? (i := 511) (by decide +kernel), List.mem_of_getElem? (i := 512) (by decide +kernel)⟩
theorem lw_p58 : lw_okq (⟨"LeasePair$LeaseRecord", "look", "(I)I"⟩, 8) := ⟨⟨by decide +kernel, by decide +kernel⟩, List.mem_of_getElem? (i := 26) (by decide +kernel), List.mem_of_getElem? (i := 527) (by decide +kernel), List.mem_of_getElem? (i := 528) (by decide +kernel)⟩
theorem lw_p59 : lw_okq (⟨"LeasePair$Client", "look", "(I)I"⟩, 5) := ⟨⟨by decide +kernel, by decide +kernel⟩, List.mem_of_getElem? (i := 95) (by decide +kernel), List.mem_of_getElem? (i := 535) (by decide +kernel), List.mem_of_getElem? (i := 536) (by decide +kernel)⟩
theorem lw_p60 : lw_okq (⟨"LeasePair$Message", "look", "(I)I"⟩, 15) := ⟨⟨by decide +kernel, by decide +kernel⟩, List.mem_of_getElem? (i := 128) (by decide +kernel), List.mem_of_getElem? (i := 547) (by decide +kernel), List.mem_of_getElem? (i := 548) (by decide +kernel)⟩
theorem lw_p61 : lw_okq (⟨"LeasePair$Message", "subject", "()I"⟩, 15) := ⟨⟨by decide +kernel, by decide +kernel⟩, List.mem_of_getElem? (i := 128) (by decide +kernel), List.mem_of_getElem? (i := 551) (by decide +kernel), List.mem_of_getElem? (i := 552) (by decide +kernel)⟩
theorem lw_p62 : lw_okq (⟨"LeasePair$Message", "detail", "()I"⟩, 15) := ⟨⟨by decide +kernel, by decide +kernel⟩, List.mem_of_getElem? (i := 128) (by decide +kernel), List.mem_of_getElem? (i := 555) (by decide +kernel), List.mem_of_getElem? (i := 556) (by decide +kernel)⟩
theorem lw_p63 : lw_okq (⟨"LeasePairModel", "out", "(I)V"⟩, 24) := ⟨⟨by decide +kernel, by decide +kernel⟩, List.mem_of_getElem? (i := 559) (by decide +kernel), List.mem_of_getElem? (i := 644) (by decide +kernel), List.mem_of_getElem? (i := 645) (by decide +kernel)⟩
def lw_privs_4 : List (MethodName × Nat) := [(⟨"LeasePair$LeaseRecord", "recover", "(LLeasePair$Message;I)Z"⟩, 8), (⟨"LeasePair$LeaseRecord", "isSameLease", "(LLeasePair$Message;)Z"⟩, 8), (⟨"LeasePair", "acknowledge", "(LLeasePair$Message;)V"⟩, 5), (⟨"LeasePair", "arriveAcknowledgement", "(LLeasePair$Message;)V"⟩, 5), (⟨"LeasePair$LeaseRecord", "takeAcknowledgement", "(LLeasePair$Message;)V"⟩, 8), (⟨"LeasePair", "arriveDemand", "(LLeasePair$Message;)V"⟩, 5), (⟨"LeasePair$Server", "markDirty", "(I)V"⟩, 7), (⟨"LeasePair$MessageList", "removeBetweenServers", "()V"⟩, 3), (⟨"LeasePair$Server", "beginRecovery", "(I)V"⟩, 7), (⟨"LeasePair", "partnerOf", "(LLeasePair$Server;)LLeasePair$Server;"⟩, 5), (⟨"LeasePair$LeaseRecord", "look", "(I)I"⟩, 8), (⟨"LeasePair$Client", "look", "(I)I"⟩, 5), (⟨"LeasePair$Message", "look", "(I)I"⟩, 15), (⟨"LeasePair$Message", "subject", "()I"⟩, 15), (⟨"LeasePair$Message", "detail", "()I"⟩, 15), (⟨"LeasePairModel", "out", "(I)V"⟩, 24)]
theorem lw_r4 : ∀ q ∈ lw_privs_4, lw_okq q := List.forall_mem_cons.mpr ⟨lw_p48, List.forall_mem_cons.mpr ⟨lw_p49, List.forall_mem_cons.mpr ⟨lw_p50, List.forall_mem_cons.mpr ⟨lw_p51, List.forall_mem_cons.mpr ⟨lw_p52, List.forall_mem_cons.mpr ⟨lw_p53, List.forall_mem_cons.mpr ⟨lw_p54, List.forall_mem_cons.mpr ⟨lw_p55, List.forall_mem_cons.mpr ⟨lw_p56, List.forall_mem_cons.mpr ⟨lw_p57, List.forall_mem_cons.mpr ⟨lw_p58, List.forall_mem_cons.mpr ⟨lw_p59, List.forall_mem_cons.mpr ⟨lw_p60, List.forall_mem_cons.mpr ⟨lw_p61, List.forall_mem_cons.mpr ⟨lw_p62, List.forall_mem_cons.mpr ⟨lw_p63, fun _ h => absurd h List.not_mem_nil⟩⟩⟩⟩⟩⟩⟩⟩⟩⟩⟩⟩⟩⟩⟩⟩
theorem lw_p64 : lw_okq (⟨"LeasePairModel", "contact", "()Z"⟩, 24) := ⟨⟨by decide +kernel, by decide +kernel⟩, List.mem_of_getElem? (i := 559) (by decide +kernel), List.mem_of_getElem? (i := 648) (by decide +kernel), List.mem_of_getElem? (i := 649) (by decide +kernel)⟩
theorem lw_p65 : lw_okq (⟨"LeasePairModel", "arrives", "()V"⟩, 24) := ⟨⟨by decide +kernel, by decide +kernel⟩, List.mem_of_getElem? (i := 559) (by decide +kernel), List.mem_of_getElem? (i := 652) (by decide +kernel), List.mem_of_getElem? (i := 653) (by decide +kernel)⟩
theorem lw_p66 : lw_okq (⟨"LeasePairModel", "told", "(I)V"⟩, 24) := ⟨⟨by decide +kernel, by decide +kernel⟩, List.mem_of_getElem? (i := 559) (by decide +kernel), List.mem_of_getElem? (i := 656) (by decide +kernel), List.mem_of_getElem? (i := 657) (by decide +kernel)⟩
theorem lw_p67 : lw_okq (⟨"LeasePairModel", "recovers", "(II)V"⟩, 24) := ⟨⟨by decide +kernel, by decide +kernel⟩, List.mem_of_getElem? (i := 559) (by decide +kernel), List.mem_of_getElem? (i := 660) (by decide +kernel), List.mem_of_getElem? (i := 661) (by decide +kernel)⟩
theorem lw_p68 : lw_okq (⟨"LeasePairModel", "runs", "(I)Z"⟩, 24) := ⟨⟨by decide +kernel, by decide +kernel⟩, List.mem_of_getElem? (i := 559) (by decide +kernel), List.mem_of_getElem? (i := 664) (by decide +kernel), List.mem_of_getElem? (i := 665) (by decide +kernel)⟩
theorem lw_p69 : lw_okq (⟨"LeasePairModel", "becomes", "(I)V"⟩, 24) := ⟨⟨by decide +kernel, by decide +kernel⟩, List.mem_of_getElem? (i := 559) (by decide +kernel), List.mem_of_getElem? (i := 668) (by decide +kernel), List.mem_of_getElem? (i := 669) (by decide +kernel)⟩
theorem lw_p70 : lw_okq (⟨"LeasePairModel", "free", "(I)V"⟩, 24) := ⟨⟨by decide +kernel, by decide +kernel⟩, List.mem_of_getElem? (i := 559) (by decide +kernel), List.mem_of_getElem? (i := 672) (by decide +kernel), List.mem_of_getElem? (i := 673) (by decide +kernel)⟩
theorem lw_p71 : lw_okq (⟨"LeasePairModel", "acknowledge", "(I)V"⟩, 24) := ⟨⟨by decide +kernel, by decide +kernel⟩, List.mem_of_getElem? (i := 559) (by decide +kernel), List.mem_of_getElem? (i := 679) (by decide +kernel), List.mem_of_getElem? (i := 680) (by decide +kernel)⟩
theorem lw_p72 : lw_okq (⟨"LeasePairModel", "begin", "(IIIII)V"⟩, 24) := ⟨⟨by decide +kernel, by decide +kernel⟩, List.mem_of_getElem? (i := 559) (by decide +kernel), List.mem_of_getElem? (i := 683) (by decide +kernel), List.mem_of_getElem? (i := 684) (by decide +kernel)⟩
theorem lw_p73 : lw_okq (⟨"LeasePairModel", "post", "()V"⟩, 24) := ⟨⟨by decide +kernel, by decide +kernel⟩, List.mem_of_getElem? (i := 559) (by decide +kernel), List.mem_of_getElem? (i := 687) (by decide +kernel), List.mem_of_getElem? (i := 688) (by decide +kernel)⟩
theorem lw_p74 : lw_okq (⟨"LeasePairModel", "takes", "(I)Z"⟩, 24) := ⟨⟨by decide +kernel, by decide +kernel⟩, List.mem_of_getElem? (i := 559) (by decide +kernel), List.mem_of_getElem? (i := 691) (by decide +kernel), List.mem_of_getElem? (i := 692) (by decide +kernel)⟩
theorem lw_p75 : lw_okq (⟨"LeasePairModel", "serves", "(I)Z"⟩, 24) := ⟨⟨by decide +kernel, by decide +kernel⟩, List.mem_of_getElem? (i := 559) (by decide +kernel), List.mem_of_getElem? (i := 695) (by decide +kernel), List.mem_of_getElem? (i := 696) (by decide +kernel)⟩
theorem lw_p76 : lw_okq (⟨"LeasePairModel", "asked", "(III)V"⟩, 24) := ⟨⟨by decide +kernel, by decide +kernel⟩, List.mem_of_getElem? (i := 559) (by decide +kernel), List.mem_of_getElem? (i := 699) (by decide +kernel), List.mem_of_getElem? (i := 700) (by decide +kernel)⟩
theorem lw_p77 : lw_okq (⟨"LeasePairModel", "choice", "(II)I"⟩, 24) := ⟨⟨by decide +kernel, by decide +kernel⟩, List.mem_of_getElem? (i := 559) (by decide +kernel), List.mem_of_getElem? (i := 703) (by decide +kernel), List.mem_of_getElem? (i := 704) (by decide +kernel)⟩
theorem lw_p78 : lw_okq (⟨"LeasePairModel", "lentAlready", "(II)I"⟩, 24) := ⟨⟨by decide +kernel, by decide +kernel⟩, List.mem_of_getElem? (i := 559) (by decide +kernel), List.mem_of_getElem? (i := 707) (by decide +kernel), List.mem_of_getElem? (i := 708) (by decide +kernel)⟩
theorem lw_p79 : lw_okq (⟨"LeasePairModel", "freeOne", "(IZ)I"⟩, 24) := ⟨⟨by decide +kernel, by decide +kernel⟩, List.mem_of_getElem? (i := 559) (by decide +kernel), List.mem_of_getElem? (i := 711) (by decide +kernel), List.mem_of_getElem? (i := 712) (by decide +kernel)⟩
def lw_privs_5 : List (MethodName × Nat) := [(⟨"LeasePairModel", "contact", "()Z"⟩, 24), (⟨"LeasePairModel", "arrives", "()V"⟩, 24), (⟨"LeasePairModel", "told", "(I)V"⟩, 24), (⟨"LeasePairModel", "recovers", "(II)V"⟩, 24), (⟨"LeasePairModel", "runs", "(I)Z"⟩, 24), (⟨"LeasePairModel", "becomes", "(I)V"⟩, 24), (⟨"LeasePairModel", "free", "(I)V"⟩, 24), (⟨"LeasePairModel", "acknowledge", "(I)V"⟩, 24), (⟨"LeasePairModel", "begin", "(IIIII)V"⟩, 24), (⟨"LeasePairModel", "post", "()V"⟩, 24), (⟨"LeasePairModel", "takes", "(I)Z"⟩, 24), (⟨"LeasePairModel", "serves", "(I)Z"⟩, 24), (⟨"LeasePairModel", "asked", "(III)V"⟩, 24), (⟨"LeasePairModel", "choice", "(II)I"⟩, 24), (⟨"LeasePairModel", "lentAlready", "(II)I"⟩, 24), (⟨"LeasePairModel", "freeOne", "(IZ)I"⟩, 24)]
theorem lw_r5 : ∀ q ∈ lw_privs_5, lw_okq q := List.forall_mem_cons.mpr ⟨lw_p64, List.forall_mem_cons.mpr ⟨lw_p65, List.forall_mem_cons.mpr ⟨lw_p66, List.forall_mem_cons.mpr ⟨lw_p67, List.forall_mem_cons.mpr ⟨lw_p68, List.forall_mem_cons.mpr ⟨lw_p69, List.forall_mem_cons.mpr ⟨lw_p70, List.forall_mem_cons.mpr ⟨lw_p71, List.forall_mem_cons.mpr ⟨lw_p72, List.forall_mem_cons.mpr ⟨lw_p73, List.forall_mem_cons.mpr ⟨lw_p74, List.forall_mem_cons.mpr ⟨lw_p75, List.forall_mem_cons.mpr ⟨lw_p76, List.forall_mem_cons.mpr ⟨lw_p77, List.forall_mem_cons.mpr ⟨lw_p78, List.forall_mem_cons.mpr ⟨lw_p79, fun _ h => absurd h List.not_mem_nil⟩⟩⟩⟩⟩⟩⟩⟩⟩⟩⟩⟩⟩⟩⟩⟩
theorem lw_p80 : lw_okq (⟨"LeasePairModel", "longOver", "(I)I"⟩, 24) := ⟨⟨by decide +kernel, by decide +kernel⟩, List.mem_of_getElem? (i := 559) (by decide +kernel), List.mem_of_getElem? (i := 715) (by decide +kernel), List.mem_of_getElem? (i := 716) (by decide +kernel)⟩
theorem lw_p81 : lw_okq (⟨"LeasePairModel", "changed", "(I)V"⟩, 24) := ⟨⟨by decide +kernel, by decide +kernel⟩, List.mem_of_getElem? (i := 559) (by decide +kernel), List.mem_of_getElem? (i := 722) (by decide +kernel), List.mem_of_getElem? (i := 723) (by decide +kernel)⟩
theorem lw_p82 : lw_okq (⟨"LeasePairModel", "over", "(I)V"⟩, 24) := ⟨⟨by decide +kernel, by decide +kernel⟩, List.mem_of_getElem? (i := 559) (by decide +kernel), List.mem_of_getElem? (i := 726) (by decide +kernel), List.mem_of_getElem? (i := 727) (by decide +kernel)⟩
theorem lw_p83 : lw_okq (⟨"LeasePairModel", "acknowledged", "(I)V"⟩, 24) := ⟨⟨by decide +kernel, by decide +kernel⟩, List.mem_of_getElem? (i := 559) (by decide +kernel), List.mem_of_getElem? (i := 730) (by decide +kernel), List.mem_of_getElem? (i := 731) (by decide +kernel)⟩
theorem lw_p84 : lw_okq (⟨"LeasePairModel", "demanded", "(I)V"⟩, 24) := ⟨⟨by decide +kernel, by decide +kernel⟩, List.mem_of_getElem? (i := 559) (by decide +kernel), List.mem_of_getElem? (i := 734) (by decide +kernel), List.mem_of_getElem? (i := 735) (by decide +kernel)⟩
theorem lw_p85 : lw_okq (⟨"LeasePairModel", "beat", "(I)V"⟩, 24) := ⟨⟨by decide +kernel, by decide +kernel⟩, List.mem_of_getElem? (i := 559) (by decide +kernel), List.mem_of_getElem? (i := 746) (by decide +kernel), List.mem_of_getElem? (i := 747) (by decide +kernel)⟩
theorem lw_p86 : lw_okq (⟨"LeasePairModel", "update", "(II)V"⟩, 24) := ⟨⟨by decide +kernel, by decide +kernel⟩, List.mem_of_getElem? (i := 559) (by decide +kernel), List.mem_of_getElem? (i := 750) (by decide +kernel), List.mem_of_getElem? (i := 751) (by decide +kernel)⟩
def lw_privs_6 : List (MethodName × Nat) := [(⟨"LeasePairModel", "longOver", "(I)I"⟩, 24), (⟨"LeasePairModel", "changed", "(I)V"⟩, 24), (⟨"LeasePairModel", "over", "(I)V"⟩, 24), (⟨"LeasePairModel", "acknowledged", "(I)V"⟩, 24), (⟨"LeasePairModel", "demanded", "(I)V"⟩, 24), (⟨"LeasePairModel", "beat", "(I)V"⟩, 24), (⟨"LeasePairModel", "update", "(II)V"⟩, 24)]
theorem lw_r6 : ∀ q ∈ lw_privs_6, lw_okq q := List.forall_mem_cons.mpr ⟨lw_p80, List.forall_mem_cons.mpr ⟨lw_p81, List.forall_mem_cons.mpr ⟨lw_p82, List.forall_mem_cons.mpr ⟨lw_p83, List.forall_mem_cons.mpr ⟨lw_p84, List.forall_mem_cons.mpr ⟨lw_p85, List.forall_mem_cons.mpr ⟨lw_p86, fun _ h => absurd h List.not_mem_nil⟩⟩⟩⟩⟩⟩⟩
def lw_privs : List (MethodName × Nat) := lw_privs_1 ++ (lw_privs_2 ++ (lw_privs_3 ++ (lw_privs_4 ++ (lw_privs_5 ++ (lw_privs_6)))))
def lw_tbl : List Cond := k2_sels lw_privs ++ tables_1
theorem lw_privs_ok : ∀ q ∈ lw_privs, lw_okq q := by
  show ∀ q ∈ lw_privs_1 ++ (lw_privs_2 ++ (lw_privs_3 ++ (lw_privs_4 ++ (lw_privs_5 ++ (lw_privs_6))))), lw_okq q
  exact List.forall_mem_append.mpr ⟨lw_r1, List.forall_mem_append.mpr ⟨lw_r2, List.forall_mem_append.mpr ⟨lw_r3, List.forall_mem_append.mpr ⟨lw_r4, List.forall_mem_append.mpr ⟨lw_r5, lw_r6⟩⟩⟩⟩⟩
-- ===== end of PART A; then your names; then what follows =====
end
section
/-! names, fields, methods, links: by program out of the Statement -/
def pz_T0 : u_T := fun k => match k with
  | 0 => ("LeasePair", "time", "I", false)
  | 1 => ("LeasePair", "linkIsUp", "Z", false)
  | 2 => ("LeasePair", "servers", "[LLeasePair$Server;", true)
  | 3 => ("LeasePair", "clients", "[LLeasePair$Client;", true)
  | _ => ("LeasePair", "list", "LLeasePair$MessageList;", true)
def pz_T1 : u_T := fun k => match k with
  | 0 => ("LeasePair$Server", "number", "I", true)
  | 1 => ("LeasePair$Server", "records", "[LLeasePair$LeaseRecord;", true)
  | 2 => ("LeasePair$Server", "state", "I", false)
  | 3 => ("LeasePair$Server", "since", "I", false)
  | 4 => ("LeasePair$Server", "session", "I", false)
  | 5 => ("LeasePair$Server", "partnerSession", "I", false)
  | _ => ("LeasePair$Server", "got", "I", false)
def pz_T2 : u_T := fun k => match k with
  | 0 => ("LeasePair$LeaseRecord", "kind", "I", false)
  | 1 => ("LeasePair$LeaseRecord", "client", "I", false)
  | 2 => ("LeasePair$LeaseRecord", "until", "I", false)
  | 3 => ("LeasePair$LeaseRecord", "acked", "I", false)
  | 4 => ("LeasePair$LeaseRecord", "known", "I", false)
  | 5 => ("LeasePair$LeaseRecord", "age", "I", false)
  | 6 => ("LeasePair$LeaseRecord", "serial", "I", false)
  | _ => ("LeasePair$LeaseRecord", "dirty", "Z", false)
def pz_T3 : u_T := fun k => match k with
  | 0 => ("LeasePair$Client", "address", "I", false)
  | 1 => ("LeasePair$Client", "until", "I", false)
  | 2 => ("LeasePair$Client", "ticket", "I", false)
  | 3 => ("LeasePair$Client", "waiting", "Z", false)
  | _ => ("LeasePair$Client", "releasedAt", "I", false)
def pz_T4 : u_T := fun k => match k with
  | 0 => ("LeasePair$MessageList", "rows", "[LLeasePair$Message;", true)
  | 1 => ("LeasePair$MessageList", "count", "I", false)
  | _ => ("LeasePair$MessageList", "taken", "LLeasePair$Message;", false)
def pz_T5 : u_T := fun k => match k with
  | 0 => ("LeasePair$Message", "kind", "I", false)
  | 1 => ("LeasePair$Message", "from", "I", false)
  | 2 => ("LeasePair$Message", "to", "I", false)
  | 3 => ("LeasePair$Message", "sentAt", "I", false)
  | 4 => ("LeasePair$Message", "ticket", "I", false)
  | 5 => ("LeasePair$Message", "address", "I", false)
  | 6 => ("LeasePair$Message", "recordKind", "I", false)
  | 7 => ("LeasePair$Message", "client", "I", false)
  | 8 => ("LeasePair$Message", "until", "I", false)
  | 9 => ("LeasePair$Message", "age", "I", false)
  | 10 => ("LeasePair$Message", "serial", "I", false)
  | 11 => ("LeasePair$Message", "potential", "I", false)
  | 12 => ("LeasePair$Message", "session", "I", false)
  | 13 => ("LeasePair$Message", "set", "I", false)
  | _ => ("LeasePair$Message", "vanishes", "Z", false)
def pz_T6 : u_T := fun k => match k with
  | 0 => ("LeasePairModel", "time", "I", false)
  | 1 => ("LeasePairModel", "up", "Z", false)
  | 2 => ("LeasePairModel", "state", "[I", true)
  | 3 => ("LeasePairModel", "since", "[I", true)
  | 4 => ("LeasePairModel", "session", "[I", true)
  | 5 => ("LeasePairModel", "knows", "[I", true)
  | 6 => ("LeasePairModel", "got", "[I", true)
  | 7 => ("LeasePairModel", "kind", "[I", true)
  | 8 => ("LeasePairModel", "lentTo", "[I", true)
  | 9 => ("LeasePairModel", "until", "[I", true)
  | 10 => ("LeasePairModel", "acked", "[I", true)
  | 11 => ("LeasePairModel", "known", "[I", true)
  | 12 => ("LeasePairModel", "age", "[I", true)
  | 13 => ("LeasePairModel", "serial", "[I", true)
  | 14 => ("LeasePairModel", "dirty", "[Z", true)
  | 15 => ("LeasePairModel", "holds", "[I", true)
  | 16 => ("LeasePairModel", "holdsTo", "[I", true)
  | 17 => ("LeasePairModel", "ticket", "[I", true)
  | 18 => ("LeasePairModel", "waits", "[Z", true)
  | 19 => ("LeasePairModel", "released", "[I", true)
  | 20 => ("LeasePairModel", "count", "I", false)
  | 21 => ("LeasePairModel", "mail", "[I", true)
  | 22 => ("LeasePairModel", "now", "[I", true)
  | _ => ("LeasePairModel", "next", "[I", true)
def pz_Y0 : Nat → FieldType := fun k => match k with
  | 0 => .int
  | 1 => .boolean
  | 2 => .array (.object "LeasePair$Server")
  | 3 => .array (.object "LeasePair$Client")
  | _ => .object "LeasePair$MessageList"
def pz_Y1 : Nat → FieldType := fun k => match k with
  | 0 => .int
  | 1 => .array (.object "LeasePair$LeaseRecord")
  | 2 => .int
  | 3 => .int
  | 4 => .int
  | 5 => .int
  | _ => .int
def pz_Y2 : Nat → FieldType := fun k => match k with
  | 0 => .int
  | 1 => .int
  | 2 => .int
  | 3 => .int
  | 4 => .int
  | 5 => .int
  | 6 => .int
  | _ => .boolean
def pz_Y3 : Nat → FieldType := fun k => match k with
  | 0 => .int
  | 1 => .int
  | 2 => .int
  | 3 => .boolean
  | _ => .int
def pz_Y4 : Nat → FieldType := fun k => match k with
  | 0 => .array (.object "LeasePair$Message")
  | 1 => .int
  | _ => .object "LeasePair$Message"
def pz_Y5 : Nat → FieldType := fun k => match k with
  | 0 => .int
  | 1 => .int
  | 2 => .int
  | 3 => .int
  | 4 => .int
  | 5 => .int
  | 6 => .int
  | 7 => .int
  | 8 => .int
  | 9 => .int
  | 10 => .int
  | 11 => .int
  | 12 => .int
  | 13 => .int
  | _ => .boolean
def pz_Y6 : Nat → FieldType := fun k => match k with
  | 0 => .int
  | 1 => .boolean
  | 2 => .array .int
  | 3 => .array .int
  | 4 => .array .int
  | 5 => .array .int
  | 6 => .array .int
  | 7 => .array .int
  | 8 => .array .int
  | 9 => .array .int
  | 10 => .array .int
  | 11 => .array .int
  | 12 => .array .int
  | 13 => .array .int
  | 14 => .array .boolean
  | 15 => .array .int
  | 16 => .array .int
  | 17 => .array .int
  | 18 => .array .boolean
  | 19 => .array .int
  | 20 => .int
  | 21 => .array .int
  | 22 => .array .int
  | _ => .array .int
def pz_cs : List vw_C := [("LeasePair", pz_T0, 5), ("LeasePair$Server", pz_T1, 7), ("LeasePair$LeaseRecord", pz_T2, 8), ("LeasePair$Client", pz_T3, 5), ("LeasePair$MessageList", pz_T4, 3), ("LeasePair$Message", pz_T5, 15), ("LeasePairModel", pz_T6, 24)]
/-- a field's type, and may it be written (no final one) -/
def pz_fty (ci : Nat) : Nat → FieldType := match ci with
  | 0 => pz_Y0
  | 1 => pz_Y1
  | 2 => pz_Y2
  | 3 => pz_Y3
  | 4 => pz_Y4
  | 5 => pz_Y5
  | _ => pz_Y6
def pz_wr (ci j : Nat) : Bool := match pz_cs[ci]? with
  | some q => !(q.2.1 j).2.2.2
  | none => false
def pz_on (kc : Nat) : String := ["LeasePair", "LeasePair$Server", "LeasePair$LeaseRecord", "LeasePair$Client", "LeasePair$MessageList", "LeasePair$Message", "LeasePairModel"].getD kc ""
def pz_mt : List (MethodName × ByteArray × Nat × Option FieldType × Nat × List Bool × Bool) := [
  (⟨"LeasePair", "<init>", "()V"⟩, prog_1_method_1_code, 2, none, 0, [], true),
  (⟨"LeasePair", "tick", "()I"⟩, prog_1_method_2_code, 2, (some .int), 0, [], true),
  (⟨"LeasePair", "ask", "(II)Z"⟩, prog_1_method_3_code, 4, (some .boolean), 0, [true, true], true),
  (⟨"LeasePair", "release", "(II)Z"⟩, prog_1_method_4_code, 5, (some .boolean), 0, [true, true], true),
  (⟨"LeasePair", "deliver", "(I)Z"⟩, prog_1_method_5_code, 3, (some .boolean), 0, [true], true),
  (⟨"LeasePair", "lose", "(I)Z"⟩, prog_1_method_6_code, 2, (some .boolean), 0, [true], true),
  (⟨"LeasePair", "stop", "(I)Z"⟩, prog_1_method_7_code, 2, (some .boolean), 0, [true], true),
  (⟨"LeasePair", "start", "(I)Z"⟩, prog_1_method_8_code, 2, (some .boolean), 0, [true], true),
  (⟨"LeasePair", "alone", "(I)Z"⟩, prog_1_method_9_code, 3, (some .boolean), 0, [true], true),
  (⟨"LeasePair", "link", "(Z)Z"⟩, prog_1_method_10_code, 2, (some .boolean), 0, [true], true),
  (⟨"LeasePair", "state", "(I)I"⟩, prog_1_method_11_code, 2, (some .int), 0, [true], true),
  (⟨"LeasePair", "entry", "(III)I"⟩, prog_1_method_12_code, 4, (some .int), 0, [true, true, true], true),
  (⟨"LeasePair", "client", "(II)I"⟩, prog_1_method_13_code, 3, (some .int), 0, [true, true], true),
  (⟨"LeasePair", "messages", "()I"⟩, prog_1_method_14_code, 1, (some .int), 0, [], true),
  (⟨"LeasePair", "message", "(II)I"⟩, prog_1_method_15_code, 3, (some .int), 0, [true, true], true),
  (⟨"LeasePair", "isServer", "(I)Z"⟩, prog_1_method_16_code, 1, (some .boolean), 0, [true], false),
  (⟨"LeasePair", "isClient", "(I)Z"⟩, prog_1_method_17_code, 1, (some .boolean), 0, [true], false),
  (⟨"LeasePair", "isDownOrRecovering", "(LLeasePair$Server;)Z"⟩, prog_1_method_18_code, 1, (some .boolean), 0, [false], false),
  (⟨"LeasePair", "partnerOf", "(LLeasePair$Server;)LLeasePair$Server;"⟩, prog_1_method_19_code, 2, (some (.object "LeasePair$Server")), 0, [false], true),
  (⟨"LeasePair", "hasContact", "()Z"⟩, prog_1_method_20_code, 1, (some .boolean), 0, [], true),
  (⟨"LeasePair", "tickServer", "(LLeasePair$Server;)V"⟩, prog_1_method_21_code, 2, none, 0, [false], true),
  (⟨"LeasePair", "tellPartner", "(LLeasePair$Server;)V"⟩, prog_1_method_22_code, 2, none, 0, [false], true),
  (⟨"LeasePair", "sendUpdates", "(LLeasePair$Server;)V"⟩, prog_1_method_23_code, 4, none, 0, [false], true),
  (⟨"LeasePair", "sendUpdate", "(LLeasePair$Server;I)V"⟩, prog_1_method_24_code, 5, none, 0, [false, true], true),
  (⟨"LeasePair", "sendDemand", "(LLeasePair$Server;)V"⟩, prog_1_method_25_code, 3, none, 0, [false], true),
  (⟨"LeasePair", "sendWithTicket", "(IIII)V"⟩, prog_1_method_26_code, 6, none, 0, [true, true, true, true], true),
  (⟨"LeasePair", "sendLease", "(LLeasePair$Message;II)V"⟩, prog_1_method_27_code, 5, none, 0, [false, true, true], true),
  (⟨"LeasePair", "acknowledge", "(LLeasePair$Message;)V"⟩, prog_1_method_28_code, 3, none, 0, [false], true),
  (⟨"LeasePair", "canArrive", "(LLeasePair$Message;)Z"⟩, prog_1_method_29_code, 2, (some .boolean), 0, [false], true),
  (⟨"LeasePair", "arrive", "(LLeasePair$Message;)V"⟩, prog_1_method_30_code, 2, none, 0, [false], true),
  (⟨"LeasePair", "arriveAsk", "(LLeasePair$Message;)V"⟩, prog_1_method_31_code, 5, none, 0, [false], true),
  (⟨"LeasePair", "arriveRelease", "(LLeasePair$Message;)V"⟩, prog_1_method_32_code, 4, none, 0, [false], true),
  (⟨"LeasePair", "arriveUpdate", "(LLeasePair$Message;)V"⟩, prog_1_method_33_code, 2, none, 0, [false], true),
  (⟨"LeasePair", "arriveAcknowledgement", "(LLeasePair$Message;)V"⟩, prog_1_method_34_code, 3, none, 0, [false], true),
  (⟨"LeasePair", "arriveDemand", "(LLeasePair$Message;)V"⟩, prog_1_method_35_code, 3, none, 0, [false], true),
  (⟨"LeasePair$Server", "<init>", "(I)V"⟩, prog_6_method_1_code, 3, none, 1, [true], true),
  (⟨"LeasePair$Server", "serves", "()Z"⟩, prog_6_method_2_code, 1, (some .boolean), 1, [], true),
  (⟨"LeasePair$Server", "hasGot", "(I)Z"⟩, prog_6_method_3_code, 2, (some .boolean), 1, [true], true),
  (⟨"LeasePair$Server", "isPastLead", "(I)Z"⟩, prog_6_method_4_code, 2, (some .boolean), 1, [true], true),
  (⟨"LeasePair$Server", "beginRecovery", "(I)V"⟩, prog_6_method_5_code, 2, none, 1, [true], true),
  (⟨"LeasePair$Server", "followContact", "(ZI)V"⟩, prog_6_method_6_code, 3, none, 1, [true, true], true),
  (⟨"LeasePair$Server", "takeUpdate", "(LLeasePair$Message;I)Z"⟩, prog_6_method_7_code, 5, (some .boolean), 1, [false, true], true),
  (⟨"LeasePair$Server", "endExpired", "(I)V"⟩, prog_6_method_8_code, 3, none, 1, [true], true),
  (⟨"LeasePair$Server", "markDirty", "(I)V"⟩, prog_6_method_9_code, 3, none, 1, [true], true),
  (⟨"LeasePair$Server", "choose", "(II)I"⟩, prog_6_method_10_code, 4, (some .int), 1, [true, true], true),
  (⟨"LeasePair$Server", "leastLentTo", "(I)I"⟩, prog_6_method_11_code, 3, (some .int), 1, [true], true),
  (⟨"LeasePair$Server", "leastFree", "(Z)I"⟩, prog_6_method_12_code, 3, (some .int), 1, [true], true),
  (⟨"LeasePair$Server", "leastLongPast", "(I)I"⟩, prog_6_method_13_code, 3, (some .int), 1, [true], true),
  (⟨"LeasePair$LeaseRecord", "<init>", "()V"⟩, prog_3_method_1_code, 1, none, 2, [], true),
  (⟨"LeasePair$LeaseRecord", "runs", "(I)Z"⟩, prog_3_method_2_code, 2, (some .boolean), 2, [true], true),
  (⟨"LeasePair$LeaseRecord", "isLentTo", "(I)Z"⟩, prog_3_method_3_code, 2, (some .boolean), 2, [true], true),
  (⟨"LeasePair$LeaseRecord", "isLongPast", "(I)Z"⟩, prog_3_method_4_code, 2, (some .boolean), 2, [true], true),
  (⟨"LeasePair$LeaseRecord", "change", "()V"⟩, prog_3_method_5_code, 1, none, 2, [], true),
  (⟨"LeasePair$LeaseRecord", "end", "()V"⟩, prog_3_method_6_code, 1, none, 2, [], true),
  (⟨"LeasePair$LeaseRecord", "lend", "(IIZ)V"⟩, prog_3_method_7_code, 5, none, 2, [true, true, true], true),
  (⟨"LeasePair$LeaseRecord", "clear", "()V"⟩, prog_3_method_8_code, 1, none, 2, [], true),
  (⟨"LeasePair$LeaseRecord", "becomeFree", "(LLeasePair$Message;)V"⟩, prog_3_method_9_code, 2, none, 2, [false], true),
  (⟨"LeasePair$LeaseRecord", "becomeLent", "(LLeasePair$Message;)V"⟩, prog_3_method_10_code, 2, none, 2, [false], true),
  (⟨"LeasePair$LeaseRecord", "recover", "(LLeasePair$Message;I)Z"⟩, prog_3_method_11_code, 5, (some .boolean), 2, [false, true], true),
  (⟨"LeasePair$LeaseRecord", "isSameLease", "(LLeasePair$Message;)Z"⟩, prog_3_method_12_code, 2, (some .boolean), 2, [false], true),
  (⟨"LeasePair$LeaseRecord", "takeUpdate", "(LLeasePair$Message;I)Z"⟩, prog_3_method_13_code, 4, (some .boolean), 2, [false, true], true),
  (⟨"LeasePair$LeaseRecord", "takeLent", "(LLeasePair$Message;I)Z"⟩, prog_3_method_14_code, 3, (some .boolean), 2, [false, true], true),
  (⟨"LeasePair$LeaseRecord", "takeAcknowledgement", "(LLeasePair$Message;)V"⟩, prog_3_method_15_code, 2, none, 2, [false], true),
  (⟨"LeasePair$LeaseRecord", "look", "(I)I"⟩, prog_3_method_16_code, 2, (some .int), 2, [true], true),
  (⟨"LeasePair$Client", "<init>", "()V"⟩, prog_2_method_1_code, 1, none, 3, [], true),
  (⟨"LeasePair$Client", "pauses", "(I)Z"⟩, prog_2_method_2_code, 2, (some .boolean), 3, [true], true),
  (⟨"LeasePair$Client", "holdNone", "()V"⟩, prog_2_method_3_code, 1, none, 3, [], true),
  (⟨"LeasePair$Client", "dropExpired", "(I)V"⟩, prog_2_method_4_code, 2, none, 3, [true], true),
  (⟨"LeasePair$Client", "waitsFor", "(LLeasePair$Message;)Z"⟩, prog_2_method_5_code, 2, (some .boolean), 3, [false], true),
  (⟨"LeasePair$Client", "takeLease", "(LLeasePair$Message;I)V"⟩, prog_2_method_6_code, 3, none, 3, [false, true], true),
  (⟨"LeasePair$Client", "takeDenial", "(LLeasePair$Message;)V"⟩, prog_2_method_7_code, 2, none, 3, [false], true),
  (⟨"LeasePair$Client", "look", "(I)I"⟩, prog_2_method_8_code, 2, (some .int), 3, [true], true),
  (⟨"LeasePair$MessageList", "<init>", "()V"⟩, prog_5_method_1_code, 2, none, 4, [], true),
  (⟨"LeasePair$MessageList", "has", "(I)Z"⟩, prog_5_method_2_code, 2, (some .boolean), 4, [true], true),
  (⟨"LeasePair$MessageList", "append", "(IIII)LLeasePair$Message;"⟩, prog_5_method_3_code, 6, (some (.object "LeasePair$Message")), 4, [true, true, true, true], true),
  (⟨"LeasePair$MessageList", "take", "(I)LLeasePair$Message;"⟩, prog_5_method_4_code, 4, (some (.object "LeasePair$Message")), 4, [true], true),
  (⟨"LeasePair$MessageList", "removeSentBefore", "(I)V"⟩, prog_5_method_5_code, 3, none, 4, [true], true),
  (⟨"LeasePair$MessageList", "removeBetweenServers", "()V"⟩, prog_5_method_6_code, 2, none, 4, [], true),
  (⟨"LeasePair$MessageList", "removeVanishing", "()V"⟩, prog_5_method_7_code, 3, none, 4, [], true),
  (⟨"LeasePair$MessageList", "swap", "(II)V"⟩, prog_5_method_8_code, 4, none, 4, [true, true], true),
  (⟨"LeasePair$Message", "<init>", "()V"⟩, prog_4_method_1_code, 1, none, 5, [], true),
  (⟨"LeasePair$Message", "isBetweenServers", "()Z"⟩, prog_4_method_2_code, 1, (some .boolean), 5, [], true),
  (⟨"LeasePair$Message", "goesToServer", "()Z"⟩, prog_4_method_3_code, 1, (some .boolean), 5, [], true),
  (⟨"LeasePair$Message", "look", "(I)I"⟩, prog_4_method_4_code, 2, (some .int), 5, [true], true),
  (⟨"LeasePair$Message", "subject", "()I"⟩, prog_4_method_5_code, 1, (some .int), 5, [], true),
  (⟨"LeasePair$Message", "detail", "()I"⟩, prog_4_method_6_code, 1, (some .int), 5, [], true),
  (⟨"LeasePairModel", "<init>", "()V"⟩, prog_8_method_1_code, 1, none, 6, [], true),
  (⟨"LeasePairModel", "isServer", "(I)Z"⟩, prog_8_method_2_code, 1, (some .boolean), 6, [true], false),
  (⟨"LeasePairModel", "isClient", "(I)Z"⟩, prog_8_method_3_code, 1, (some .boolean), 6, [true], false),
  (⟨"LeasePairModel", "serves", "(I)Z"⟩, prog_8_method_4_code, 2, (some .boolean), 6, [true], true),
  (⟨"LeasePairModel", "contact", "()Z"⟩, prog_8_method_5_code, 1, (some .boolean), 6, [], true),
  (⟨"LeasePairModel", "runs", "(I)Z"⟩, prog_8_method_6_code, 2, (some .boolean), 6, [true], true),
  (⟨"LeasePairModel", "most", "(II)I"⟩, prog_8_method_7_code, 2, (some .int), 6, [true, true], false),
  (⟨"LeasePairModel", "least", "(II)I"⟩, prog_8_method_8_code, 2, (some .int), 6, [true, true], false),
  (⟨"LeasePairModel", "begin", "(IIIII)V"⟩, prog_8_method_9_code, 7, none, 6, [true, true, true, true, true], true),
  (⟨"LeasePairModel", "post", "()V"⟩, prog_8_method_10_code, 2, none, 6, [], true),
  (⟨"LeasePairModel", "out", "(I)V"⟩, prog_8_method_11_code, 3, none, 6, [true], true),
  (⟨"LeasePairModel", "changed", "(I)V"⟩, prog_8_method_12_code, 2, none, 6, [true], true),
  (⟨"LeasePairModel", "free", "(I)V"⟩, prog_8_method_13_code, 2, none, 6, [true], true),
  (⟨"LeasePairModel", "lentAlready", "(II)I"⟩, prog_8_method_14_code, 4, (some .int), 6, [true, true], true),
  (⟨"LeasePairModel", "freeOne", "(IZ)I"⟩, prog_8_method_15_code, 4, (some .int), 6, [true, true], true),
  (⟨"LeasePairModel", "longOver", "(I)I"⟩, prog_8_method_16_code, 3, (some .int), 6, [true], true),
  (⟨"LeasePairModel", "choice", "(II)I"⟩, prog_8_method_17_code, 5, (some .int), 6, [true, true], true),
  (⟨"LeasePairModel", "asked", "(III)V"⟩, prog_8_method_18_code, 7, none, 6, [true, true, true], true),
  (⟨"LeasePairModel", "over", "(I)V"⟩, prog_8_method_19_code, 2, none, 6, [true], true),
  (⟨"LeasePairModel", "update", "(II)V"⟩, prog_8_method_20_code, 4, none, 6, [true, true], true),
  (⟨"LeasePairModel", "acknowledge", "(I)V"⟩, prog_8_method_21_code, 2, none, 6, [true], true),
  (⟨"LeasePairModel", "becomes", "(I)V"⟩, prog_8_method_22_code, 2, none, 6, [true], true),
  (⟨"LeasePairModel", "recovers", "(II)V"⟩, prog_8_method_23_code, 6, none, 6, [true, true], true),
  (⟨"LeasePairModel", "takes", "(I)Z"⟩, prog_8_method_24_code, 2, (some .boolean), 6, [true], true),
  (⟨"LeasePairModel", "told", "(I)V"⟩, prog_8_method_25_code, 3, none, 6, [true], true),
  (⟨"LeasePairModel", "acknowledged", "(I)V"⟩, prog_8_method_26_code, 3, none, 6, [true], true),
  (⟨"LeasePairModel", "demanded", "(I)V"⟩, prog_8_method_27_code, 3, none, 6, [true], true),
  (⟨"LeasePairModel", "arrives", "()V"⟩, prog_8_method_28_code, 3, none, 6, [], true),
  (⟨"LeasePairModel", "deliver", "(I)Z"⟩, prog_8_method_29_code, 3, (some .boolean), 6, [true], true),
  (⟨"LeasePairModel", "lose", "(I)Z"⟩, prog_8_method_30_code, 2, (some .boolean), 6, [true], true),
  (⟨"LeasePairModel", "beat", "(I)V"⟩, prog_8_method_31_code, 5, none, 6, [true], true),
  (⟨"LeasePairModel", "tick", "()I"⟩, prog_8_method_32_code, 2, (some .int), 6, [], true),
  (⟨"LeasePairModel", "ask", "(II)Z"⟩, prog_8_method_33_code, 3, (some .boolean), 6, [true, true], true),
  (⟨"LeasePairModel", "release", "(II)Z"⟩, prog_8_method_34_code, 3, (some .boolean), 6, [true, true], true),
  (⟨"LeasePairModel", "stop", "(I)Z"⟩, prog_8_method_35_code, 3, (some .boolean), 6, [true], true),
  (⟨"LeasePairModel", "start", "(I)Z"⟩, prog_8_method_36_code, 2, (some .boolean), 6, [true], true),
  (⟨"LeasePairModel", "alone", "(I)Z"⟩, prog_8_method_37_code, 2, (some .boolean), 6, [true], true),
  (⟨"LeasePairModel", "link", "(Z)Z"⟩, prog_8_method_38_code, 2, (some .boolean), 6, [true], true),
  (⟨"LeasePairModel", "state", "(I)I"⟩, prog_8_method_39_code, 2, (some .int), 6, [true], true),
  (⟨"LeasePairModel", "entry", "(III)I"⟩, prog_8_method_40_code, 5, (some .int), 6, [true, true, true], true),
  (⟨"LeasePairModel", "client", "(II)I"⟩, prog_8_method_41_code, 3, (some .int), 6, [true, true], true),
  (⟨"LeasePairModel", "messages", "()I"⟩, prog_8_method_42_code, 1, (some .int), 6, [], true),
  (⟨"LeasePairModel", "message", "(II)I"⟩, prog_8_method_43_code, 3, (some .int), 6, [true, true], true)]
def pz_m0 : MethodName × ByteArray × Nat × Option FieldType × Nat × List Bool × Bool := (⟨"", "", ""⟩, ⟨#[]⟩, 0, none, 0, [], false)
def pz_y (k : Nat) : MethodName := (pz_mt.getD k pz_m0).1
def pz_b (k : Nat) : ByteArray := (pz_mt.getD k pz_m0).2.1
def pz_n (k : Nat) : Nat := (pz_mt.getD k pz_m0).2.2.1
def pz_ret (k : Nat) : Option FieldType := (pz_mt.getD k pz_m0).2.2.2.1
def pz_kc (k : Nat) : Nat := (pz_mt.getD k pz_m0).2.2.2.2.1
def pz_ko (k : Nat) : Nat := (pz_mt.getD k pz_m0).2.2.2.2.1
def pz_pt (k : Nat) : List Bool := (pz_mt.getD k pz_m0).2.2.2.2.2.1
def pz_vi (k : Nat) : Bool := (pz_mt.getD k pz_m0).2.2.2.2.2.2
def pz_ty (dA : Nat → ClassId) : List (ClassId × FieldType) := [(dA 0, .int), (dA 1, .boolean), (dA 2, .object "LeasePair$Server"), (dA 3, .object "LeasePair$Client"), (dA 4, .object "LeasePair$LeaseRecord"), (dA 5, .object "LeasePair$Message")]
/-- which array type holds objects of that number -/
def pz_ct (ci : Nat) : Nat := match ci with
  | 1 => 2
  | 3 => 3
  | 2 => 4
  | 5 => 5
  | _ => 9
def pz_ne (w : Jvm.Cond) : Bool := match w with
  | .fieldLinkNest .. => true
  | .methodLinkNest .. => true
  | _ => false
def pz_ws : List Jvm.Cond := lw_tbl.filter goodWord
def pz_nw : List Jvm.Cond := lw_tbl.filter pz_ne
theorem pz_ws_good : ∀ w ∈ pz_ws, (w.onTables && w.keeps) = true ∨ ∃ ty, w = .arrayClass ty := fun w h => good_of_word (List.mem_filter.mp h).2
theorem pz_at {w : Jvm.Cond} (i : Nat) (h : lw_tbl[i]? = some w) (hg : goodWord w = true) : w ∈ pz_ws := List.mem_filter.mpr ⟨List.mem_of_getElem? h, hg⟩
theorem pz_atn {w : Jvm.Cond} (i : Nat) (h : lw_tbl[i]? = some w) (hg : pz_ne w = true) : w ∈ pz_nw := List.mem_filter.mpr ⟨List.mem_of_getElem? h, hg⟩
theorem pz_nw_tab : ∀ w ∈ pz_nw, w.onTables = true := by
  intro w h
  have h2 := (List.mem_filter.mp h).2
  unfold pz_ne at h2
  split at h2
  · rfl
  · rfl
  · cases h2
theorem pz_nw_warm {s U : State} (hW : s.WarmedH U.vm) : ∀ w ∈ pz_nw, va_Nw w s → va_Nw w U := by
  intro w h hz
  have h2 := (List.mem_filter.mp h).2
  unfold pz_ne at h2
  split at h2
  · exact hz.warmF hW
  · exact hz.warmM hW
  · cases h2
def pz_flds : List (Nat × Nat × Nat × Nat × Nat) := [(0, 7, 0, 0, 301), (0, 13, 0, 1, 302), (0, 19, 0, 2, 303), (0, 28, 0, 3, 304), (0, 36, 0, 4, 305), (0, 46, 1, 2, 157), (0, 63, 3, 2, 190), (0, 66, 3, 3, 192), (0, 73, 3, 0, 188), (0, 80, 5, 5, 234), (0, 86, 3, 4, 195), (0, 118, 1, 3, 159), (0, 121, 1, 1, 155), (0, 132, 4, 1, 292), (0, 135, 4, 0, 290), (0, 140, 1, 0, 153), (0, 163, 1, 6, 164), (0, 169, 2, 7, 134), (0, 176, 2, 0, 120), (0, 179, 5, 6, 240), (0, 182, 2, 1, 122), (0, 185, 5, 7, 242), (0, 186, 2, 2, 125), (0, 189, 5, 8, 245), (0, 190, 2, 5, 129), (0, 193, 5, 9, 247), (0, 194, 2, 6, 131), (0, 197, 5, 10, 250), (0, 198, 5, 11, 252), (0, 201, 1, 5, 162), (0, 204, 5, 12, 254), (0, 207, 5, 13, 256), (0, 210, 1, 4, 161), (0, 211, 5, 4, 233), (0, 212, 5, 2, 228), (0, 215, 5, 1, 225), (0, 224, 5, 0, 222), (1, 9, 1, 0, 152), (1, 15, 1, 2, 156), (1, 20, 1, 1, 154), (1, 25, 1, 6, 163), (1, 28, 1, 3, 158), (1, 31, 1, 4, 160), (1, 38, 5, 5, 237), (1, 47, 5, 12, 253), (1, 54, 2, 0, 119), (1, 57, 2, 2, 124), (1, 63, 2, 7, 133), (2, 9, 2, 0, 118), (2, 15, 2, 1, 121), (2, 18, 2, 2, 123), (2, 21, 2, 4, 127), (2, 24, 2, 6, 130), (2, 27, 2, 7, 132), (2, 38, 2, 5, 128), (2, 41, 2, 3, 126), (2, 56, 5, 9, 246), (2, 59, 5, 7, 241), (2, 60, 5, 8, 244), (2, 61, 5, 11, 251), (2, 71, 5, 6, 239), (2, 85, 5, 10, 249), (3, 9, 3, 0, 187), (3, 15, 3, 4, 194), (3, 18, 3, 1, 189), (3, 24, 3, 3, 193), (3, 28, 5, 4, 231), (3, 33, 3, 2, 191), (3, 38, 5, 8, 243), (3, 39, 5, 5, 236), (4, 11, 4, 0, 289), (4, 18, 4, 2, 293), (4, 22, 4, 1, 291), (4, 26, 5, 0, 221), (4, 29, 5, 1, 223), (4, 32, 5, 2, 226), (4, 35, 5, 3, 229), (4, 38, 5, 14, 257), (5, 9, 5, 0, 220), (5, 15, 5, 1, 224), (5, 18, 5, 2, 227), (5, 28, 5, 3, 230), (5, 31, 5, 5, 235), (5, 34, 5, 13, 255), (5, 37, 5, 4, 232), (5, 40, 5, 6, 238), (5, 43, 5, 10, 248), (6, 7, 6, 1, 652), (6, 13, 6, 2, 653), (6, 17, 6, 3, 654), (6, 20, 6, 4, 655), (6, 23, 6, 5, 656), (6, 26, 6, 6, 657), (6, 29, 6, 7, 658), (6, 32, 6, 8, 659), (6, 35, 6, 9, 660), (6, 38, 6, 10, 661), (6, 41, 6, 11, 662), (6, 44, 6, 12, 663), (6, 47, 6, 13, 664), (6, 50, 6, 14, 665), (6, 54, 6, 15, 666), (6, 57, 6, 16, 667), (6, 60, 6, 17, 668), (6, 63, 6, 18, 669), (6, 66, 6, 19, 670), (6, 69, 6, 21, 672), (6, 72, 6, 22, 673), (6, 75, 6, 23, 674), (6, 78, 6, 0, 651), (6, 82, 6, 20, 671)]
def pz_fld (kc idx : Nat) : Option (Nat × Nat) := (pz_flds.find? (fun e => e.1 == kc && e.2.1 == idx)).map (fun e => (e.2.2.1, e.2.2.2.1))
def pz_fck (e : Nat × Nat × Nat × Nat × Nat) : Bool := match pz_cs[e.2.2.1]? with
  | some q => decide (e.2.2.2.1 < q.2.2) && decide ((q.2.1 e.2.2.2.1).1 = q.1) && (decide (lw_tbl[e.2.2.2.2]? = some (.fieldLink (pz_on e.1) e.2.1 q.1 (q.2.1 e.2.2.2.1).2.1 (q.2.1 e.2.2.2.1).2.2.1)) || decide (lw_tbl[e.2.2.2.2]? = some (.fieldLinkNest (pz_on e.1) e.2.1 q.1 (q.2.1 e.2.2.2.1).2.1 (q.2.1 e.2.2.2.1).2.2.1 "LeasePair")))
  | none => false
set_option maxRecDepth 100000 in
theorem pz_fck_all : pz_flds.all pz_fck = true := by decide +kernel
set_option maxRecDepth 100000 in
theorem pz_us0 : u_ws "LeasePair" pz_T0 5 = ([306, 308, 310, 312, 314] : List Nat).filterMap (fun i => lw_tbl[i]?) := by decide +kernel
set_option maxRecDepth 100000 in
theorem pz_ug0 : (u_ws "LeasePair" pz_T0 5).all goodWord = true := by decide +kernel
theorem pz_uin0 : ∀ w ∈ u_ws "LeasePair" pz_T0 5, w ∈ pz_ws := fun w h => List.mem_filter.mpr ⟨by
  rw [pz_us0] at h
  obtain ⟨i, -, hi⟩ := List.mem_filterMap.mp h
  exact List.mem_of_getElem? hi, List.all_eq_true.mp pz_ug0 w h⟩
theorem pz_nm0 : ∀ a, a < 5 → ∀ b, b < 5 → a ≠ b → (pz_T0 a).2.1 ≠ (pz_T0 b).2.1 := by decide +kernel
theorem pz_yk0 : ∀ k, k < 5 → parseFieldDescriptor (pz_T0 k).2.2.1 = some (pz_Y0 k) := by decide +kernel
set_option maxRecDepth 100000 in
theorem pz_us1 : u_ws "LeasePair$Server" pz_T1 7 = ([165, 167, 169, 171, 173, 175, 177] : List Nat).filterMap (fun i => lw_tbl[i]?) := by decide +kernel
set_option maxRecDepth 100000 in
theorem pz_ug1 : (u_ws "LeasePair$Server" pz_T1 7).all goodWord = true := by decide +kernel
theorem pz_uin1 : ∀ w ∈ u_ws "LeasePair$Server" pz_T1 7, w ∈ pz_ws := fun w h => List.mem_filter.mpr ⟨by
  rw [pz_us1] at h
  obtain ⟨i, -, hi⟩ := List.mem_filterMap.mp h
  exact List.mem_of_getElem? hi, List.all_eq_true.mp pz_ug1 w h⟩
theorem pz_nm1 : ∀ a, a < 7 → ∀ b, b < 7 → a ≠ b → (pz_T1 a).2.1 ≠ (pz_T1 b).2.1 := by decide +kernel
theorem pz_yk1 : ∀ k, k < 7 → parseFieldDescriptor (pz_T1 k).2.2.1 = some (pz_Y1 k) := by decide +kernel
set_option maxRecDepth 100000 in
theorem pz_us2 : u_ws "LeasePair$LeaseRecord" pz_T2 8 = ([135, 137, 139, 141, 143, 145, 147, 149] : List Nat).filterMap (fun i => lw_tbl[i]?) := by decide +kernel
set_option maxRecDepth 100000 in
theorem pz_ug2 : (u_ws "LeasePair$LeaseRecord" pz_T2 8).all goodWord = true := by decide +kernel
theorem pz_uin2 : ∀ w ∈ u_ws "LeasePair$LeaseRecord" pz_T2 8, w ∈ pz_ws := fun w h => List.mem_filter.mpr ⟨by
  rw [pz_us2] at h
  obtain ⟨i, -, hi⟩ := List.mem_filterMap.mp h
  exact List.mem_of_getElem? hi, List.all_eq_true.mp pz_ug2 w h⟩
theorem pz_nm2 : ∀ a, a < 8 → ∀ b, b < 8 → a ≠ b → (pz_T2 a).2.1 ≠ (pz_T2 b).2.1 := by decide +kernel
theorem pz_yk2 : ∀ k, k < 8 → parseFieldDescriptor (pz_T2 k).2.2.1 = some (pz_Y2 k) := by decide +kernel
set_option maxRecDepth 100000 in
theorem pz_us3 : u_ws "LeasePair$Client" pz_T3 5 = ([196, 198, 200, 202, 204] : List Nat).filterMap (fun i => lw_tbl[i]?) := by decide +kernel
set_option maxRecDepth 100000 in
theorem pz_ug3 : (u_ws "LeasePair$Client" pz_T3 5).all goodWord = true := by decide +kernel
theorem pz_uin3 : ∀ w ∈ u_ws "LeasePair$Client" pz_T3 5, w ∈ pz_ws := fun w h => List.mem_filter.mpr ⟨by
  rw [pz_us3] at h
  obtain ⟨i, -, hi⟩ := List.mem_filterMap.mp h
  exact List.mem_of_getElem? hi, List.all_eq_true.mp pz_ug3 w h⟩
theorem pz_nm3 : ∀ a, a < 5 → ∀ b, b < 5 → a ≠ b → (pz_T3 a).2.1 ≠ (pz_T3 b).2.1 := by decide +kernel
theorem pz_yk3 : ∀ k, k < 5 → parseFieldDescriptor (pz_T3 k).2.2.1 = some (pz_Y3 k) := by decide +kernel
set_option maxRecDepth 100000 in
theorem pz_us4 : u_ws "LeasePair$MessageList" pz_T4 3 = ([294, 296, 298] : List Nat).filterMap (fun i => lw_tbl[i]?) := by decide +kernel
set_option maxRecDepth 100000 in
theorem pz_ug4 : (u_ws "LeasePair$MessageList" pz_T4 3).all goodWord = true := by decide +kernel
theorem pz_uin4 : ∀ w ∈ u_ws "LeasePair$MessageList" pz_T4 3, w ∈ pz_ws := fun w h => List.mem_filter.mpr ⟨by
  rw [pz_us4] at h
  obtain ⟨i, -, hi⟩ := List.mem_filterMap.mp h
  exact List.mem_of_getElem? hi, List.all_eq_true.mp pz_ug4 w h⟩
theorem pz_nm4 : ∀ a, a < 3 → ∀ b, b < 3 → a ≠ b → (pz_T4 a).2.1 ≠ (pz_T4 b).2.1 := by decide +kernel
theorem pz_yk4 : ∀ k, k < 3 → parseFieldDescriptor (pz_T4 k).2.2.1 = some (pz_Y4 k) := by decide +kernel
set_option maxRecDepth 100000 in
theorem pz_us5 : u_ws "LeasePair$Message" pz_T5 15 = ([258, 260, 262, 264, 266, 268, 270, 272, 274, 276, 278, 280, 282, 284, 286] : List Nat).filterMap (fun i => lw_tbl[i]?) := by decide +kernel
set_option maxRecDepth 100000 in
theorem pz_ug5 : (u_ws "LeasePair$Message" pz_T5 15).all goodWord = true := by decide +kernel
theorem pz_uin5 : ∀ w ∈ u_ws "LeasePair$Message" pz_T5 15, w ∈ pz_ws := fun w h => List.mem_filter.mpr ⟨by
  rw [pz_us5] at h
  obtain ⟨i, -, hi⟩ := List.mem_filterMap.mp h
  exact List.mem_of_getElem? hi, List.all_eq_true.mp pz_ug5 w h⟩
theorem pz_nm5 : ∀ a, a < 15 → ∀ b, b < 15 → a ≠ b → (pz_T5 a).2.1 ≠ (pz_T5 b).2.1 := by decide +kernel
theorem pz_yk5 : ∀ k, k < 15 → parseFieldDescriptor (pz_T5 k).2.2.1 = some (pz_Y5 k) := by decide +kernel
set_option maxRecDepth 100000 in
theorem pz_us6 : u_ws "LeasePairModel" pz_T6 24 = ([675, 677, 679, 681, 683, 685, 687, 689, 691, 693, 695, 697, 699, 701, 703, 705, 707, 709, 711, 713, 715, 717, 719, 721] : List Nat).filterMap (fun i => lw_tbl[i]?) := by decide +kernel
set_option maxRecDepth 100000 in
theorem pz_ug6 : (u_ws "LeasePairModel" pz_T6 24).all goodWord = true := by decide +kernel
theorem pz_uin6 : ∀ w ∈ u_ws "LeasePairModel" pz_T6 24, w ∈ pz_ws := fun w h => List.mem_filter.mpr ⟨by
  rw [pz_us6] at h
  obtain ⟨i, -, hi⟩ := List.mem_filterMap.mp h
  exact List.mem_of_getElem? hi, List.all_eq_true.mp pz_ug6 w h⟩
theorem pz_nm6 : ∀ a, a < 24 → ∀ b, b < 24 → a ≠ b → (pz_T6 a).2.1 ≠ (pz_T6 b).2.1 := by decide +kernel
theorem pz_yk6 : ∀ k, k < 24 → parseFieldDescriptor (pz_T6 k).2.2.1 = some (pz_Y6 k) := by decide +kernel
theorem pz_cs_at {ci : Nat} {q : vw_C} (h : pz_cs[ci]? = some q) : (ci = 0 ∧ q = ("LeasePair", pz_T0, 5)) ∨ (ci = 1 ∧ q = ("LeasePair$Server", pz_T1, 7)) ∨ (ci = 2 ∧ q = ("LeasePair$LeaseRecord", pz_T2, 8)) ∨ (ci = 3 ∧ q = ("LeasePair$Client", pz_T3, 5)) ∨ (ci = 4 ∧ q = ("LeasePair$MessageList", pz_T4, 3)) ∨ (ci = 5 ∧ q = ("LeasePair$Message", pz_T5, 15)) ∨ (ci = 6 ∧ q = ("LeasePairModel", pz_T6, 24)) := by
  match ci, h with
  | 0, h => exact Or.inl ⟨rfl, (Option.some.inj h).symm⟩
  | 1, h => exact Or.inr (Or.inl ⟨rfl, (Option.some.inj h).symm⟩)
  | 2, h => exact Or.inr (Or.inr (Or.inl ⟨rfl, (Option.some.inj h).symm⟩))
  | 3, h => exact Or.inr (Or.inr (Or.inr (Or.inl ⟨rfl, (Option.some.inj h).symm⟩)))
  | 4, h => exact Or.inr (Or.inr (Or.inr (Or.inr (Or.inl ⟨rfl, (Option.some.inj h).symm⟩))))
  | 5, h => exact Or.inr (Or.inr (Or.inr (Or.inr (Or.inr (Or.inl ⟨rfl, (Option.some.inj h).symm⟩)))))
  | 6, h => exact Or.inr (Or.inr (Or.inr (Or.inr (Or.inr (Or.inr (⟨rfl, (Option.some.inj h).symm⟩))))))
  | _ + 7, h => exact absurd h (by simp [pz_cs])
theorem pz_cs_in {ci : Nat} {C : String} {T : u_T} {N : Nat} (h : pz_cs[ci]? = some (C, T, N)) : ∀ w ∈ u_ws C T N, w ∈ pz_ws := by
  rcases pz_cs_at h with ⟨rfl, e⟩ | ⟨rfl, e⟩ | ⟨rfl, e⟩ | ⟨rfl, e⟩ | ⟨rfl, e⟩ | ⟨rfl, e⟩ | ⟨rfl, e⟩
  · cases e
    exact pz_uin0
  · cases e
    exact pz_uin1
  · cases e
    exact pz_uin2
  · cases e
    exact pz_uin3
  · cases e
    exact pz_uin4
  · cases e
    exact pz_uin5
  · cases e
    exact pz_uin6
theorem pz_cs_ok {ci : Nat} {C : String} {T : u_T} {N : Nat} (h : pz_cs[ci]? = some (C, T, N)) : (∀ k, k < N → parseFieldDescriptor (T k).2.2.1 = some (pz_fty ci k)) ∧ (∀ a, a < N → ∀ b, b < N → a ≠ b → (T a).2.1 ≠ (T b).2.1) ∧ ∀ j, j < N → (T j).2.2.2 = !(pz_wr ci j) := by
  have h9 : ∀ j, j < N → (T j).2.2.2 = !(pz_wr ci j) := by
    intro j _
    unfold pz_wr
    rw [h]
    simp
  rcases pz_cs_at h with ⟨rfl, e⟩ | ⟨rfl, e⟩ | ⟨rfl, e⟩ | ⟨rfl, e⟩ | ⟨rfl, e⟩ | ⟨rfl, e⟩ | ⟨rfl, e⟩
  · cases e
    exact ⟨pz_yk0, pz_nm0, h9⟩
  · cases e
    exact ⟨pz_yk1, pz_nm1, h9⟩
  · cases e
    exact ⟨pz_yk2, pz_nm2, h9⟩
  · cases e
    exact ⟨pz_yk3, pz_nm3, h9⟩
  · cases e
    exact ⟨pz_yk4, pz_nm4, h9⟩
  · cases e
    exact ⟨pz_yk5, pz_nm5, h9⟩
  · cases e
    exact ⟨pz_yk6, pz_nm6, h9⟩
theorem pz_fld_ok {kc idx ci j : Nat} (h : pz_fld kc idx = some (ci, j)) : ∃ C T N, pz_cs[ci]? = some (C, T, N) ∧ j < N ∧ (∀ w ∈ u_ws C T N, w ∈ pz_ws) ∧ (T j).1 = C ∧ (Jvm.Cond.fieldLink (pz_on kc) idx C (T j).2.1 (T j).2.2.1 ∈ pz_ws ∨ ∃ host, Jvm.Cond.fieldLinkNest (pz_on kc) idx C (T j).2.1 (T j).2.2.1 host ∈ pz_nw) := by
  unfold pz_fld at h
  obtain ⟨e, he, h2⟩ := Option.map_eq_some_iff.mp h
  have hm := List.mem_of_find?_eq_some he
  have hp := List.find?_some he
  obtain ⟨e1, e2, e3, e4, e5⟩ := e
  simp only [Bool.and_eq_true, beq_iff_eq] at hp
  obtain ⟨rfl, rfl⟩ := hp
  simp only [Prod.mk.injEq] at h2
  obtain ⟨rfl, rfl⟩ := h2
  have hc := List.all_eq_true.mp pz_fck_all _ hm
  unfold pz_fck at hc
  split at hc
  · rename_i q hq
    obtain ⟨C, T, N⟩ := q
    simp only [Bool.and_eq_true, Bool.or_eq_true, decide_eq_true_eq] at hc
    refine ⟨C, T, N, hq, hc.1.1, pz_cs_in hq, hc.1.2, ?_⟩
    rcases hc.2 with h3 | h3
    · exact Or.inl (pz_at _ h3 rfl)
    · exact Or.inr ⟨_, pz_atn _ h3 rfl⟩
  · cases hc
def pz_mls : List (Nat × Nat × Nat × Nat) := [(0, 40, 76, 321), (0, 43, 67, 333), (0, 49, 20, 341), (0, 53, 16, 397), (0, 57, 15, 400), (0, 60, 65, 403), (0, 69, 25, 407), (0, 76, 74, 385), (0, 83, 66, 415), (0, 89, 73, 420), (0, 92, 75, 424), (0, 96, 28, 428), (0, 100, 29, 440), (0, 104, 17, 577), (0, 108, 77, 580), (0, 111, 39, 589), (0, 114, 18, 597), (0, 125, 63, 613), (0, 131, 71, 621), (0, 139, 83, 633), (0, 143, 19, 345), (0, 147, 40, 349), (0, 151, 36, 357), (0, 154, 42, 361), (0, 157, 21, 373), (0, 160, 22, 377), (0, 166, 24, 389), (0, 172, 23, 381), (0, 218, 81, 432), (0, 221, 82, 436), (0, 225, 30, 444), (0, 228, 69, 487), (0, 232, 70, 495), (0, 235, 31, 499), (0, 238, 32, 505), (0, 241, 33, 553), (0, 244, 34, 561), (0, 247, 44, 448), (0, 251, 54, 472), (0, 255, 26, 483), (0, 259, 50, 503), (0, 262, 53, 504), (0, 265, 41, 509), (0, 269, 27, 549), (0, 272, 62, 557), (0, 275, 43, 565), (1, 34, 38, 353), (1, 43, 60, 513), (1, 48, 37, 537), (1, 51, 58, 541), (1, 60, 53, 365), (1, 67, 45, 452), (1, 71, 46, 460), (1, 75, 47, 464), (1, 78, 50, 456), (1, 81, 51, 468), (2, 31, 52, 369), (2, 34, 50, 476), (2, 53, 55, 533), (2, 64, 49, 521), (2, 67, 59, 545), (2, 74, 56, 529), (2, 78, 57, 525), (2, 81, 61, 517), (3, 21, 66, 337), (3, 34, 68, 491), (4, 42, 78, 325), (4, 45, 81, 584), (4, 49, 79, 329), (5, 21, 84, 637), (5, 25, 85, 641), (6, 85, 99, 793), (6, 89, 100, 797), (6, 93, 101, 801), (6, 97, 102, 789), (6, 100, 94, 769), (6, 104, 95, 773), (6, 107, 92, 762), (6, 110, 93, 805), (6, 113, 97, 808), (6, 117, 98, 758), (6, 120, 91, 750), (6, 124, 107, 754), (6, 127, 106, 765), (6, 130, 108, 746), (6, 134, 109, 777), (6, 137, 110, 742), (6, 140, 89, 781), (6, 143, 103, 785), (6, 147, 104, 812), (6, 150, 111, 816), (6, 153, 112, 820), (6, 156, 96, 730), (6, 159, 90, 734), (6, 163, 113, 738), (6, 166, 105, 836), (6, 169, 116, 832), (6, 172, 88, 844), (6, 175, 87, 847)]
def pz_mth (kc idx : Nat) : Option Nat := (pz_mls.find? (fun e => e.1 == kc && e.2.1 == idx)).map (fun e => e.2.2.1)
def pz_mck (e : Nat × Nat × Nat × Nat) : Bool := decide (lw_tbl[e.2.2.2]? = some (.methodLink (pz_on e.1) e.2.1 (pz_y e.2.2.1))) || decide (lw_tbl[e.2.2.2]? = some (.methodLinkNest (pz_on e.1) e.2.1 (pz_y e.2.2.1) "LeasePair"))
set_option maxRecDepth 100000 in
theorem pz_mck_all : pz_mls.all pz_mck = true := by decide +kernel
def pz_kok (k : Nat) : Prop := plainName (pz_y k).cls = true ∧ (pz_y k).cls = pz_on (pz_kc k) ∧ ((pz_y k).cls ≠ "java/lang/invoke/MethodHandle" ∧ (pz_y k).cls ≠ "java/lang/invoke/VarHandle") ∧ (parseMethodDescriptor (pz_y k).desc).map (fun d => d.parameters.length) = some (pz_pt k).length ∧ pz_n k ≤ 13 ∧ Jvm.Cond.code (pz_y k) (pz_b k) (pz_n k) (pz_ret k) ∈ pz_ws ∧ Jvm.Cond.initialized (pz_y k).cls ∈ pz_ws ∧
  (pz_vi k = true → Jvm.Cond.instanceMethod (pz_y k) ∈ pz_ws ∧ Jvm.Cond.selects (pz_y k).cls (pz_y k) (pz_y k) ∈ pz_ws ∧ ∃ T N, pz_cs[pz_ko k]? = some ((pz_y k).cls, T, N) ∧ (pz_pt k).length + 1 ≤ pz_n k) ∧ (pz_vi k = false → Jvm.Cond.static (pz_y k) ∈ pz_ws ∧ (pz_pt k).length ≤ pz_n k)
set_option maxRecDepth 100000 in
theorem pz_k1 : pz_kok 1 := ⟨by decide +kernel, rfl, ⟨by decide +kernel, by decide +kernel⟩, by decide +kernel, by decide +kernel, pz_at 320 rfl rfl, pz_at 88 rfl rfl, fun _ => ⟨pz_at 318 rfl rfl, pz_at 319 rfl rfl, pz_T0, 5, rfl, by decide +kernel⟩, fun h => by cases h⟩
set_option maxRecDepth 100000 in
theorem pz_k2 : pz_kok 2 := ⟨by decide +kernel, rfl, ⟨by decide +kernel, by decide +kernel⟩, by decide +kernel, by decide +kernel, pz_at 396 rfl rfl, pz_at 88 rfl rfl, fun _ => ⟨pz_at 394 rfl rfl, pz_at 395 rfl rfl, pz_T0, 5, rfl, by decide +kernel⟩, fun h => by cases h⟩
set_option maxRecDepth 100000 in
theorem pz_k3 : pz_kok 3 := ⟨by decide +kernel, rfl, ⟨by decide +kernel, by decide +kernel⟩, by decide +kernel, by decide +kernel, pz_at 414 rfl rfl, pz_at 88 rfl rfl, fun _ => ⟨pz_at 412 rfl rfl, pz_at 413 rfl rfl, pz_T0, 5, rfl, by decide +kernel⟩, fun h => by cases h⟩
set_option maxRecDepth 100000 in
theorem pz_k4 : pz_kok 4 := ⟨by decide +kernel, rfl, ⟨by decide +kernel, by decide +kernel⟩, by decide +kernel, by decide +kernel, pz_at 419 rfl rfl, pz_at 88 rfl rfl, fun _ => ⟨pz_at 417 rfl rfl, pz_at 418 rfl rfl, pz_T0, 5, rfl, by decide +kernel⟩, fun h => by cases h⟩
set_option maxRecDepth 100000 in
theorem pz_k5 : pz_kok 5 := ⟨by decide +kernel, rfl, ⟨by decide +kernel, by decide +kernel⟩, by decide +kernel, by decide +kernel, pz_at 572 rfl rfl, pz_at 88 rfl rfl, fun _ => ⟨pz_at 570 rfl rfl, pz_at 571 rfl rfl, pz_T0, 5, rfl, by decide +kernel⟩, fun h => by cases h⟩
set_option maxRecDepth 100000 in
theorem pz_k6 : pz_kok 6 := ⟨by decide +kernel, rfl, ⟨by decide +kernel, by decide +kernel⟩, by decide +kernel, by decide +kernel, pz_at 576 rfl rfl, pz_at 88 rfl rfl, fun _ => ⟨pz_at 574 rfl rfl, pz_at 575 rfl rfl, pz_T0, 5, rfl, by decide +kernel⟩, fun h => by cases h⟩
set_option maxRecDepth 100000 in
theorem pz_k7 : pz_kok 7 := ⟨by decide +kernel, rfl, ⟨by decide +kernel, by decide +kernel⟩, by decide +kernel, by decide +kernel, pz_at 588 rfl rfl, pz_at 88 rfl rfl, fun _ => ⟨pz_at 586 rfl rfl, pz_at 587 rfl rfl, pz_T0, 5, rfl, by decide +kernel⟩, fun h => by cases h⟩
set_option maxRecDepth 100000 in
theorem pz_k8 : pz_kok 8 := ⟨by decide +kernel, rfl, ⟨by decide +kernel, by decide +kernel⟩, by decide +kernel, by decide +kernel, pz_at 596 rfl rfl, pz_at 88 rfl rfl, fun _ => ⟨pz_at 594 rfl rfl, pz_at 595 rfl rfl, pz_T0, 5, rfl, by decide +kernel⟩, fun h => by cases h⟩
set_option maxRecDepth 100000 in
theorem pz_k9 : pz_kok 9 := ⟨by decide +kernel, rfl, ⟨by decide +kernel, by decide +kernel⟩, by decide +kernel, by decide +kernel, pz_at 604 rfl rfl, pz_at 88 rfl rfl, fun _ => ⟨pz_at 602 rfl rfl, pz_at 603 rfl rfl, pz_T0, 5, rfl, by decide +kernel⟩, fun h => by cases h⟩
set_option maxRecDepth 100000 in
theorem pz_k10 : pz_kok 10 := ⟨by decide +kernel, rfl, ⟨by decide +kernel, by decide +kernel⟩, by decide +kernel, by decide +kernel, pz_at 608 rfl rfl, pz_at 88 rfl rfl, fun _ => ⟨pz_at 606 rfl rfl, pz_at 607 rfl rfl, pz_T0, 5, rfl, by decide +kernel⟩, fun h => by cases h⟩
set_option maxRecDepth 100000 in
theorem pz_k11 : pz_kok 11 := ⟨by decide +kernel, rfl, ⟨by decide +kernel, by decide +kernel⟩, by decide +kernel, by decide +kernel, pz_at 612 rfl rfl, pz_at 88 rfl rfl, fun _ => ⟨pz_at 610 rfl rfl, pz_at 611 rfl rfl, pz_T0, 5, rfl, by decide +kernel⟩, fun h => by cases h⟩
set_option maxRecDepth 100000 in
theorem pz_k12 : pz_kok 12 := ⟨by decide +kernel, rfl, ⟨by decide +kernel, by decide +kernel⟩, by decide +kernel, by decide +kernel, pz_at 620 rfl rfl, pz_at 88 rfl rfl, fun _ => ⟨pz_at 618 rfl rfl, pz_at 619 rfl rfl, pz_T0, 5, rfl, by decide +kernel⟩, fun h => by cases h⟩
set_option maxRecDepth 100000 in
theorem pz_k13 : pz_kok 13 := ⟨by decide +kernel, rfl, ⟨by decide +kernel, by decide +kernel⟩, by decide +kernel, by decide +kernel, pz_at 628 rfl rfl, pz_at 88 rfl rfl, fun _ => ⟨pz_at 626 rfl rfl, pz_at 627 rfl rfl, pz_T0, 5, rfl, by decide +kernel⟩, fun h => by cases h⟩
set_option maxRecDepth 100000 in
theorem pz_k14 : pz_kok 14 := ⟨by decide +kernel, rfl, ⟨by decide +kernel, by decide +kernel⟩, by decide +kernel, by decide +kernel, pz_at 632 rfl rfl, pz_at 88 rfl rfl, fun _ => ⟨pz_at 630 rfl rfl, pz_at 631 rfl rfl, pz_T0, 5, rfl, by decide +kernel⟩, fun h => by cases h⟩
set_option maxRecDepth 100000 in
theorem pz_k15 : pz_kok 15 := ⟨by decide +kernel, rfl, ⟨by decide +kernel, by decide +kernel⟩, by decide +kernel, by decide +kernel, pz_at 402 rfl rfl, pz_at 88 rfl rfl, (fun h => by cases h), fun _ => ⟨pz_at 401 rfl rfl, by decide +kernel⟩⟩
set_option maxRecDepth 100000 in
theorem pz_k16 : pz_kok 16 := ⟨by decide +kernel, rfl, ⟨by decide +kernel, by decide +kernel⟩, by decide +kernel, by decide +kernel, pz_at 399 rfl rfl, pz_at 88 rfl rfl, (fun h => by cases h), fun _ => ⟨pz_at 398 rfl rfl, by decide +kernel⟩⟩
set_option maxRecDepth 100000 in
theorem pz_k17 : pz_kok 17 := ⟨by decide +kernel, rfl, ⟨by decide +kernel, by decide +kernel⟩, by decide +kernel, by decide +kernel, pz_at 579 rfl rfl, pz_at 88 rfl rfl, (fun h => by cases h), fun _ => ⟨pz_at 578 rfl rfl, by decide +kernel⟩⟩
set_option maxRecDepth 100000 in
theorem pz_k18 : pz_kok 18 := ⟨by decide +kernel, rfl, ⟨by decide +kernel, by decide +kernel⟩, by decide +kernel, by decide +kernel, pz_at 600 rfl rfl, pz_at 88 rfl rfl, fun _ => ⟨pz_at 599 rfl rfl, pz_at 57 rfl rfl, pz_T0, 5, rfl, by decide +kernel⟩, fun h => by cases h⟩
set_option maxRecDepth 100000 in
theorem pz_k19 : pz_kok 19 := ⟨by decide +kernel, rfl, ⟨by decide +kernel, by decide +kernel⟩, by decide +kernel, by decide +kernel, pz_at 348 rfl rfl, pz_at 88 rfl rfl, fun _ => ⟨pz_at 347 rfl rfl, pz_at 6 rfl rfl, pz_T0, 5, rfl, by decide +kernel⟩, fun h => by cases h⟩
set_option maxRecDepth 100000 in
theorem pz_k20 : pz_kok 20 := ⟨by decide +kernel, rfl, ⟨by decide +kernel, by decide +kernel⟩, by decide +kernel, by decide +kernel, pz_at 344 rfl rfl, pz_at 88 rfl rfl, fun _ => ⟨pz_at 343 rfl rfl, pz_at 5 rfl rfl, pz_T0, 5, rfl, by decide +kernel⟩, fun h => by cases h⟩
set_option maxRecDepth 100000 in
theorem pz_k21 : pz_kok 21 := ⟨by decide +kernel, rfl, ⟨by decide +kernel, by decide +kernel⟩, by decide +kernel, by decide +kernel, pz_at 376 rfl rfl, pz_at 88 rfl rfl, fun _ => ⟨pz_at 375 rfl rfl, pz_at 13 rfl rfl, pz_T0, 5, rfl, by decide +kernel⟩, fun h => by cases h⟩
set_option maxRecDepth 100000 in
theorem pz_k22 : pz_kok 22 := ⟨by decide +kernel, rfl, ⟨by decide +kernel, by decide +kernel⟩, by decide +kernel, by decide +kernel, pz_at 380 rfl rfl, pz_at 88 rfl rfl, fun _ => ⟨pz_at 379 rfl rfl, pz_at 14 rfl rfl, pz_T0, 5, rfl, by decide +kernel⟩, fun h => by cases h⟩
set_option maxRecDepth 100000 in
theorem pz_k23 : pz_kok 23 := ⟨by decide +kernel, rfl, ⟨by decide +kernel, by decide +kernel⟩, by decide +kernel, by decide +kernel, pz_at 384 rfl rfl, pz_at 88 rfl rfl, fun _ => ⟨pz_at 383 rfl rfl, pz_at 15 rfl rfl, pz_T0, 5, rfl, by decide +kernel⟩, fun h => by cases h⟩
set_option maxRecDepth 100000 in
theorem pz_k24 : pz_kok 24 := ⟨by decide +kernel, rfl, ⟨by decide +kernel, by decide +kernel⟩, by decide +kernel, by decide +kernel, pz_at 392 rfl rfl, pz_at 88 rfl rfl, fun _ => ⟨pz_at 391 rfl rfl, pz_at 17 rfl rfl, pz_T0, 5, rfl, by decide +kernel⟩, fun h => by cases h⟩
set_option maxRecDepth 100000 in
theorem pz_k25 : pz_kok 25 := ⟨by decide +kernel, rfl, ⟨by decide +kernel, by decide +kernel⟩, by decide +kernel, by decide +kernel, pz_at 410 rfl rfl, pz_at 88 rfl rfl, fun _ => ⟨pz_at 409 rfl rfl, pz_at 19 rfl rfl, pz_T0, 5, rfl, by decide +kernel⟩, fun h => by cases h⟩
set_option maxRecDepth 100000 in
theorem pz_k26 : pz_kok 26 := ⟨by decide +kernel, rfl, ⟨by decide +kernel, by decide +kernel⟩, by decide +kernel, by decide +kernel, pz_at 486 rfl rfl, pz_at 88 rfl rfl, fun _ => ⟨pz_at 485 rfl rfl, pz_at 34 rfl rfl, pz_T0, 5, rfl, by decide +kernel⟩, fun h => by cases h⟩
set_option maxRecDepth 100000 in
theorem pz_k27 : pz_kok 27 := ⟨by decide +kernel, rfl, ⟨by decide +kernel, by decide +kernel⟩, by decide +kernel, by decide +kernel, pz_at 552 rfl rfl, pz_at 88 rfl rfl, fun _ => ⟨pz_at 551 rfl rfl, pz_at 50 rfl rfl, pz_T0, 5, rfl, by decide +kernel⟩, fun h => by cases h⟩
set_option maxRecDepth 100000 in
theorem pz_k28 : pz_kok 28 := ⟨by decide +kernel, rfl, ⟨by decide +kernel, by decide +kernel⟩, by decide +kernel, by decide +kernel, pz_at 431 rfl rfl, pz_at 88 rfl rfl, fun _ => ⟨pz_at 430 rfl rfl, pz_at 22 rfl rfl, pz_T0, 5, rfl, by decide +kernel⟩, fun h => by cases h⟩
set_option maxRecDepth 100000 in
theorem pz_k29 : pz_kok 29 := ⟨by decide +kernel, rfl, ⟨by decide +kernel, by decide +kernel⟩, by decide +kernel, by decide +kernel, pz_at 443 rfl rfl, pz_at 88 rfl rfl, fun _ => ⟨pz_at 442 rfl rfl, pz_at 25 rfl rfl, pz_T0, 5, rfl, by decide +kernel⟩, fun h => by cases h⟩
set_option maxRecDepth 100000 in
theorem pz_k30 : pz_kok 30 := ⟨by decide +kernel, rfl, ⟨by decide +kernel, by decide +kernel⟩, by decide +kernel, by decide +kernel, pz_at 447 rfl rfl, pz_at 88 rfl rfl, fun _ => ⟨pz_at 446 rfl rfl, pz_at 26 rfl rfl, pz_T0, 5, rfl, by decide +kernel⟩, fun h => by cases h⟩
set_option maxRecDepth 100000 in
theorem pz_k31 : pz_kok 31 := ⟨by decide +kernel, rfl, ⟨by decide +kernel, by decide +kernel⟩, by decide +kernel, by decide +kernel, pz_at 502 rfl rfl, pz_at 88 rfl rfl, fun _ => ⟨pz_at 501 rfl rfl, pz_at 38 rfl rfl, pz_T0, 5, rfl, by decide +kernel⟩, fun h => by cases h⟩
set_option maxRecDepth 100000 in
theorem pz_k32 : pz_kok 32 := ⟨by decide +kernel, rfl, ⟨by decide +kernel, by decide +kernel⟩, by decide +kernel, by decide +kernel, pz_at 508 rfl rfl, pz_at 88 rfl rfl, fun _ => ⟨pz_at 507 rfl rfl, pz_at 39 rfl rfl, pz_T0, 5, rfl, by decide +kernel⟩, fun h => by cases h⟩
set_option maxRecDepth 100000 in
theorem pz_k33 : pz_kok 33 := ⟨by decide +kernel, rfl, ⟨by decide +kernel, by decide +kernel⟩, by decide +kernel, by decide +kernel, pz_at 556 rfl rfl, pz_at 88 rfl rfl, fun _ => ⟨pz_at 555 rfl rfl, pz_at 51 rfl rfl, pz_T0, 5, rfl, by decide +kernel⟩, fun h => by cases h⟩
set_option maxRecDepth 100000 in
theorem pz_k34 : pz_kok 34 := ⟨by decide +kernel, rfl, ⟨by decide +kernel, by decide +kernel⟩, by decide +kernel, by decide +kernel, pz_at 564 rfl rfl, pz_at 88 rfl rfl, fun _ => ⟨pz_at 563 rfl rfl, pz_at 53 rfl rfl, pz_T0, 5, rfl, by decide +kernel⟩, fun h => by cases h⟩
set_option maxRecDepth 100000 in
theorem pz_k36 : pz_kok 36 := ⟨by decide +kernel, rfl, ⟨by decide +kernel, by decide +kernel⟩, by decide +kernel, by decide +kernel, pz_at 360 rfl rfl, pz_at 89 rfl rfl, fun _ => ⟨pz_at 359 rfl rfl, pz_at 9 rfl rfl, pz_T1, 7, rfl, by decide +kernel⟩, fun h => by cases h⟩
set_option maxRecDepth 100000 in
theorem pz_k37 : pz_kok 37 := ⟨by decide +kernel, rfl, ⟨by decide +kernel, by decide +kernel⟩, by decide +kernel, by decide +kernel, pz_at 540 rfl rfl, pz_at 89 rfl rfl, fun _ => ⟨pz_at 539 rfl rfl, pz_at 47 rfl rfl, pz_T1, 7, rfl, by decide +kernel⟩, fun h => by cases h⟩
set_option maxRecDepth 100000 in
theorem pz_k38 : pz_kok 38 := ⟨by decide +kernel, rfl, ⟨by decide +kernel, by decide +kernel⟩, by decide +kernel, by decide +kernel, pz_at 356 rfl rfl, pz_at 89 rfl rfl, fun _ => ⟨pz_at 355 rfl rfl, pz_at 8 rfl rfl, pz_T1, 7, rfl, by decide +kernel⟩, fun h => by cases h⟩
set_option maxRecDepth 100000 in
theorem pz_k39 : pz_kok 39 := ⟨by decide +kernel, rfl, ⟨by decide +kernel, by decide +kernel⟩, by decide +kernel, by decide +kernel, pz_at 592 rfl rfl, pz_at 89 rfl rfl, fun _ => ⟨pz_at 591 rfl rfl, pz_at 56 rfl rfl, pz_T1, 7, rfl, by decide +kernel⟩, fun h => by cases h⟩
set_option maxRecDepth 100000 in
theorem pz_k40 : pz_kok 40 := ⟨by decide +kernel, rfl, ⟨by decide +kernel, by decide +kernel⟩, by decide +kernel, by decide +kernel, pz_at 352 rfl rfl, pz_at 89 rfl rfl, fun _ => ⟨pz_at 351 rfl rfl, pz_at 7 rfl rfl, pz_T1, 7, rfl, by decide +kernel⟩, fun h => by cases h⟩
set_option maxRecDepth 100000 in
theorem pz_k41 : pz_kok 41 := ⟨by decide +kernel, rfl, ⟨by decide +kernel, by decide +kernel⟩, by decide +kernel, by decide +kernel, pz_at 512 rfl rfl, pz_at 89 rfl rfl, fun _ => ⟨pz_at 511 rfl rfl, pz_at 40 rfl rfl, pz_T1, 7, rfl, by decide +kernel⟩, fun h => by cases h⟩
set_option maxRecDepth 100000 in
theorem pz_k42 : pz_kok 42 := ⟨by decide +kernel, rfl, ⟨by decide +kernel, by decide +kernel⟩, by decide +kernel, by decide +kernel, pz_at 364 rfl rfl, pz_at 89 rfl rfl, fun _ => ⟨pz_at 363 rfl rfl, pz_at 10 rfl rfl, pz_T1, 7, rfl, by decide +kernel⟩, fun h => by cases h⟩
set_option maxRecDepth 100000 in
theorem pz_k43 : pz_kok 43 := ⟨by decide +kernel, rfl, ⟨by decide +kernel, by decide +kernel⟩, by decide +kernel, by decide +kernel, pz_at 568 rfl rfl, pz_at 89 rfl rfl, fun _ => ⟨pz_at 567 rfl rfl, pz_at 54 rfl rfl, pz_T1, 7, rfl, by decide +kernel⟩, fun h => by cases h⟩
set_option maxRecDepth 100000 in
theorem pz_k44 : pz_kok 44 := ⟨by decide +kernel, rfl, ⟨by decide +kernel, by decide +kernel⟩, by decide +kernel, by decide +kernel, pz_at 451 rfl rfl, pz_at 89 rfl rfl, fun _ => ⟨pz_at 450 rfl rfl, pz_at 27 rfl rfl, pz_T1, 7, rfl, by decide +kernel⟩, fun h => by cases h⟩
set_option maxRecDepth 100000 in
theorem pz_k45 : pz_kok 45 := ⟨by decide +kernel, rfl, ⟨by decide +kernel, by decide +kernel⟩, by decide +kernel, by decide +kernel, pz_at 455 rfl rfl, pz_at 89 rfl rfl, fun _ => ⟨pz_at 454 rfl rfl, pz_at 28 rfl rfl, pz_T1, 7, rfl, by decide +kernel⟩, fun h => by cases h⟩
set_option maxRecDepth 100000 in
theorem pz_k46 : pz_kok 46 := ⟨by decide +kernel, rfl, ⟨by decide +kernel, by decide +kernel⟩, by decide +kernel, by decide +kernel, pz_at 463 rfl rfl, pz_at 89 rfl rfl, fun _ => ⟨pz_at 462 rfl rfl, pz_at 30 rfl rfl, pz_T1, 7, rfl, by decide +kernel⟩, fun h => by cases h⟩
set_option maxRecDepth 100000 in
theorem pz_k47 : pz_kok 47 := ⟨by decide +kernel, rfl, ⟨by decide +kernel, by decide +kernel⟩, by decide +kernel, by decide +kernel, pz_at 467 rfl rfl, pz_at 89 rfl rfl, fun _ => ⟨pz_at 466 rfl rfl, pz_at 31 rfl rfl, pz_T1, 7, rfl, by decide +kernel⟩, fun h => by cases h⟩
set_option maxRecDepth 100000 in
theorem pz_k49 : pz_kok 49 := ⟨by decide +kernel, rfl, ⟨by decide +kernel, by decide +kernel⟩, by decide +kernel, by decide +kernel, pz_at 524 rfl rfl, pz_at 90 rfl rfl, fun _ => ⟨pz_at 523 rfl rfl, pz_at 43 rfl rfl, pz_T2, 8, rfl, by decide +kernel⟩, fun h => by cases h⟩
set_option maxRecDepth 100000 in
theorem pz_k50 : pz_kok 50 := ⟨by decide +kernel, rfl, ⟨by decide +kernel, by decide +kernel⟩, by decide +kernel, by decide +kernel, pz_at 459 rfl rfl, pz_at 90 rfl rfl, fun _ => ⟨pz_at 458 rfl rfl, pz_at 29 rfl rfl, pz_T2, 8, rfl, by decide +kernel⟩, fun h => by cases h⟩
set_option maxRecDepth 100000 in
theorem pz_k51 : pz_kok 51 := ⟨by decide +kernel, rfl, ⟨by decide +kernel, by decide +kernel⟩, by decide +kernel, by decide +kernel, pz_at 471 rfl rfl, pz_at 90 rfl rfl, fun _ => ⟨pz_at 470 rfl rfl, pz_at 32 rfl rfl, pz_T2, 8, rfl, by decide +kernel⟩, fun h => by cases h⟩
set_option maxRecDepth 100000 in
theorem pz_k52 : pz_kok 52 := ⟨by decide +kernel, rfl, ⟨by decide +kernel, by decide +kernel⟩, by decide +kernel, by decide +kernel, pz_at 372 rfl rfl, pz_at 90 rfl rfl, fun _ => ⟨pz_at 371 rfl rfl, pz_at 12 rfl rfl, pz_T2, 8, rfl, by decide +kernel⟩, fun h => by cases h⟩
set_option maxRecDepth 100000 in
theorem pz_k53 : pz_kok 53 := ⟨by decide +kernel, rfl, ⟨by decide +kernel, by decide +kernel⟩, by decide +kernel, by decide +kernel, pz_at 368 rfl rfl, pz_at 90 rfl rfl, fun _ => ⟨pz_at 367 rfl rfl, pz_at 11 rfl rfl, pz_T2, 8, rfl, by decide +kernel⟩, fun h => by cases h⟩
set_option maxRecDepth 100000 in
theorem pz_k54 : pz_kok 54 := ⟨by decide +kernel, rfl, ⟨by decide +kernel, by decide +kernel⟩, by decide +kernel, by decide +kernel, pz_at 475 rfl rfl, pz_at 90 rfl rfl, fun _ => ⟨pz_at 474 rfl rfl, pz_at 33 rfl rfl, pz_T2, 8, rfl, by decide +kernel⟩, fun h => by cases h⟩
set_option maxRecDepth 100000 in
theorem pz_k55 : pz_kok 55 := ⟨by decide +kernel, rfl, ⟨by decide +kernel, by decide +kernel⟩, by decide +kernel, by decide +kernel, pz_at 536 rfl rfl, pz_at 90 rfl rfl, fun _ => ⟨pz_at 535 rfl rfl, pz_at 46 rfl rfl, pz_T2, 8, rfl, by decide +kernel⟩, fun h => by cases h⟩
set_option maxRecDepth 100000 in
theorem pz_k56 : pz_kok 56 := ⟨by decide +kernel, rfl, ⟨by decide +kernel, by decide +kernel⟩, by decide +kernel, by decide +kernel, pz_at 532 rfl rfl, pz_at 90 rfl rfl, fun _ => ⟨pz_at 531 rfl rfl, pz_at 45 rfl rfl, pz_T2, 8, rfl, by decide +kernel⟩, fun h => by cases h⟩
set_option maxRecDepth 100000 in
theorem pz_k57 : pz_kok 57 := ⟨by decide +kernel, rfl, ⟨by decide +kernel, by decide +kernel⟩, by decide +kernel, by decide +kernel, pz_at 528 rfl rfl, pz_at 90 rfl rfl, fun _ => ⟨pz_at 527 rfl rfl, pz_at 44 rfl rfl, pz_T2, 8, rfl, by decide +kernel⟩, fun h => by cases h⟩
set_option maxRecDepth 100000 in
theorem pz_k58 : pz_kok 58 := ⟨by decide +kernel, rfl, ⟨by decide +kernel, by decide +kernel⟩, by decide +kernel, by decide +kernel, pz_at 544 rfl rfl, pz_at 90 rfl rfl, fun _ => ⟨pz_at 543 rfl rfl, pz_at 48 rfl rfl, pz_T2, 8, rfl, by decide +kernel⟩, fun h => by cases h⟩
set_option maxRecDepth 100000 in
theorem pz_k59 : pz_kok 59 := ⟨by decide +kernel, rfl, ⟨by decide +kernel, by decide +kernel⟩, by decide +kernel, by decide +kernel, pz_at 548 rfl rfl, pz_at 90 rfl rfl, fun _ => ⟨pz_at 547 rfl rfl, pz_at 49 rfl rfl, pz_T2, 8, rfl, by decide +kernel⟩, fun h => by cases h⟩
set_option maxRecDepth 100000 in
theorem pz_k60 : pz_kok 60 := ⟨by decide +kernel, rfl, ⟨by decide +kernel, by decide +kernel⟩, by decide +kernel, by decide +kernel, pz_at 516 rfl rfl, pz_at 90 rfl rfl, fun _ => ⟨pz_at 515 rfl rfl, pz_at 41 rfl rfl, pz_T2, 8, rfl, by decide +kernel⟩, fun h => by cases h⟩
set_option maxRecDepth 100000 in
theorem pz_k61 : pz_kok 61 := ⟨by decide +kernel, rfl, ⟨by decide +kernel, by decide +kernel⟩, by decide +kernel, by decide +kernel, pz_at 520 rfl rfl, pz_at 90 rfl rfl, fun _ => ⟨pz_at 519 rfl rfl, pz_at 42 rfl rfl, pz_T2, 8, rfl, by decide +kernel⟩, fun h => by cases h⟩
set_option maxRecDepth 100000 in
theorem pz_k62 : pz_kok 62 := ⟨by decide +kernel, rfl, ⟨by decide +kernel, by decide +kernel⟩, by decide +kernel, by decide +kernel, pz_at 560 rfl rfl, pz_at 90 rfl rfl, fun _ => ⟨pz_at 559 rfl rfl, pz_at 52 rfl rfl, pz_T2, 8, rfl, by decide +kernel⟩, fun h => by cases h⟩
set_option maxRecDepth 100000 in
theorem pz_k63 : pz_kok 63 := ⟨by decide +kernel, rfl, ⟨by decide +kernel, by decide +kernel⟩, by decide +kernel, by decide +kernel, pz_at 616 rfl rfl, pz_at 90 rfl rfl, fun _ => ⟨pz_at 615 rfl rfl, pz_at 58 rfl rfl, pz_T2, 8, rfl, by decide +kernel⟩, fun h => by cases h⟩
set_option maxRecDepth 100000 in
theorem pz_k65 : pz_kok 65 := ⟨by decide +kernel, rfl, ⟨by decide +kernel, by decide +kernel⟩, by decide +kernel, by decide +kernel, pz_at 406 rfl rfl, pz_at 91 rfl rfl, fun _ => ⟨pz_at 405 rfl rfl, pz_at 18 rfl rfl, pz_T3, 5, rfl, by decide +kernel⟩, fun h => by cases h⟩
set_option maxRecDepth 100000 in
theorem pz_k66 : pz_kok 66 := ⟨by decide +kernel, rfl, ⟨by decide +kernel, by decide +kernel⟩, by decide +kernel, by decide +kernel, pz_at 340 rfl rfl, pz_at 91 rfl rfl, fun _ => ⟨pz_at 339 rfl rfl, pz_at 4 rfl rfl, pz_T3, 5, rfl, by decide +kernel⟩, fun h => by cases h⟩
set_option maxRecDepth 100000 in
theorem pz_k67 : pz_kok 67 := ⟨by decide +kernel, rfl, ⟨by decide +kernel, by decide +kernel⟩, by decide +kernel, by decide +kernel, pz_at 336 rfl rfl, pz_at 91 rfl rfl, fun _ => ⟨pz_at 335 rfl rfl, pz_at 3 rfl rfl, pz_T3, 5, rfl, by decide +kernel⟩, fun h => by cases h⟩
set_option maxRecDepth 100000 in
theorem pz_k68 : pz_kok 68 := ⟨by decide +kernel, rfl, ⟨by decide +kernel, by decide +kernel⟩, by decide +kernel, by decide +kernel, pz_at 494 rfl rfl, pz_at 91 rfl rfl, fun _ => ⟨pz_at 493 rfl rfl, pz_at 36 rfl rfl, pz_T3, 5, rfl, by decide +kernel⟩, fun h => by cases h⟩
set_option maxRecDepth 100000 in
theorem pz_k69 : pz_kok 69 := ⟨by decide +kernel, rfl, ⟨by decide +kernel, by decide +kernel⟩, by decide +kernel, by decide +kernel, pz_at 490 rfl rfl, pz_at 91 rfl rfl, fun _ => ⟨pz_at 489 rfl rfl, pz_at 35 rfl rfl, pz_T3, 5, rfl, by decide +kernel⟩, fun h => by cases h⟩
set_option maxRecDepth 100000 in
theorem pz_k70 : pz_kok 70 := ⟨by decide +kernel, rfl, ⟨by decide +kernel, by decide +kernel⟩, by decide +kernel, by decide +kernel, pz_at 498 rfl rfl, pz_at 91 rfl rfl, fun _ => ⟨pz_at 497 rfl rfl, pz_at 37 rfl rfl, pz_T3, 5, rfl, by decide +kernel⟩, fun h => by cases h⟩
set_option maxRecDepth 100000 in
theorem pz_k71 : pz_kok 71 := ⟨by decide +kernel, rfl, ⟨by decide +kernel, by decide +kernel⟩, by decide +kernel, by decide +kernel, pz_at 624 rfl rfl, pz_at 91 rfl rfl, fun _ => ⟨pz_at 623 rfl rfl, pz_at 59 rfl rfl, pz_T3, 5, rfl, by decide +kernel⟩, fun h => by cases h⟩
set_option maxRecDepth 100000 in
theorem pz_k73 : pz_kok 73 := ⟨by decide +kernel, rfl, ⟨by decide +kernel, by decide +kernel⟩, by decide +kernel, by decide +kernel, pz_at 423 rfl rfl, pz_at 92 rfl rfl, fun _ => ⟨pz_at 422 rfl rfl, pz_at 20 rfl rfl, pz_T4, 3, rfl, by decide +kernel⟩, fun h => by cases h⟩
set_option maxRecDepth 100000 in
theorem pz_k74 : pz_kok 74 := ⟨by decide +kernel, rfl, ⟨by decide +kernel, by decide +kernel⟩, by decide +kernel, by decide +kernel, pz_at 388 rfl rfl, pz_at 92 rfl rfl, fun _ => ⟨pz_at 387 rfl rfl, pz_at 16 rfl rfl, pz_T4, 3, rfl, by decide +kernel⟩, fun h => by cases h⟩
set_option maxRecDepth 100000 in
theorem pz_k75 : pz_kok 75 := ⟨by decide +kernel, rfl, ⟨by decide +kernel, by decide +kernel⟩, by decide +kernel, by decide +kernel, pz_at 427 rfl rfl, pz_at 92 rfl rfl, fun _ => ⟨pz_at 426 rfl rfl, pz_at 21 rfl rfl, pz_T4, 3, rfl, by decide +kernel⟩, fun h => by cases h⟩
set_option maxRecDepth 100000 in
theorem pz_k76 : pz_kok 76 := ⟨by decide +kernel, rfl, ⟨by decide +kernel, by decide +kernel⟩, by decide +kernel, by decide +kernel, pz_at 324 rfl rfl, pz_at 92 rfl rfl, fun _ => ⟨pz_at 323 rfl rfl, pz_at 0 rfl rfl, pz_T4, 3, rfl, by decide +kernel⟩, fun h => by cases h⟩
set_option maxRecDepth 100000 in
theorem pz_k77 : pz_kok 77 := ⟨by decide +kernel, rfl, ⟨by decide +kernel, by decide +kernel⟩, by decide +kernel, by decide +kernel, pz_at 583 rfl rfl, pz_at 92 rfl rfl, fun _ => ⟨pz_at 582 rfl rfl, pz_at 55 rfl rfl, pz_T4, 3, rfl, by decide +kernel⟩, fun h => by cases h⟩
set_option maxRecDepth 100000 in
theorem pz_k78 : pz_kok 78 := ⟨by decide +kernel, rfl, ⟨by decide +kernel, by decide +kernel⟩, by decide +kernel, by decide +kernel, pz_at 328 rfl rfl, pz_at 92 rfl rfl, fun _ => ⟨pz_at 327 rfl rfl, pz_at 1 rfl rfl, pz_T4, 3, rfl, by decide +kernel⟩, fun h => by cases h⟩
set_option maxRecDepth 100000 in
theorem pz_k79 : pz_kok 79 := ⟨by decide +kernel, rfl, ⟨by decide +kernel, by decide +kernel⟩, by decide +kernel, by decide +kernel, pz_at 332 rfl rfl, pz_at 92 rfl rfl, fun _ => ⟨pz_at 331 rfl rfl, pz_at 2 rfl rfl, pz_T4, 3, rfl, by decide +kernel⟩, fun h => by cases h⟩
set_option maxRecDepth 100000 in
theorem pz_k81 : pz_kok 81 := ⟨by decide +kernel, rfl, ⟨by decide +kernel, by decide +kernel⟩, by decide +kernel, by decide +kernel, pz_at 435 rfl rfl, pz_at 93 rfl rfl, fun _ => ⟨pz_at 434 rfl rfl, pz_at 23 rfl rfl, pz_T5, 15, rfl, by decide +kernel⟩, fun h => by cases h⟩
set_option maxRecDepth 100000 in
theorem pz_k82 : pz_kok 82 := ⟨by decide +kernel, rfl, ⟨by decide +kernel, by decide +kernel⟩, by decide +kernel, by decide +kernel, pz_at 439 rfl rfl, pz_at 93 rfl rfl, fun _ => ⟨pz_at 438 rfl rfl, pz_at 24 rfl rfl, pz_T5, 15, rfl, by decide +kernel⟩, fun h => by cases h⟩
set_option maxRecDepth 100000 in
theorem pz_k83 : pz_kok 83 := ⟨by decide +kernel, rfl, ⟨by decide +kernel, by decide +kernel⟩, by decide +kernel, by decide +kernel, pz_at 636 rfl rfl, pz_at 93 rfl rfl, fun _ => ⟨pz_at 635 rfl rfl, pz_at 60 rfl rfl, pz_T5, 15, rfl, by decide +kernel⟩, fun h => by cases h⟩
set_option maxRecDepth 100000 in
theorem pz_k84 : pz_kok 84 := ⟨by decide +kernel, rfl, ⟨by decide +kernel, by decide +kernel⟩, by decide +kernel, by decide +kernel, pz_at 640 rfl rfl, pz_at 93 rfl rfl, fun _ => ⟨pz_at 639 rfl rfl, pz_at 61 rfl rfl, pz_T5, 15, rfl, by decide +kernel⟩, fun h => by cases h⟩
set_option maxRecDepth 100000 in
theorem pz_k85 : pz_kok 85 := ⟨by decide +kernel, rfl, ⟨by decide +kernel, by decide +kernel⟩, by decide +kernel, by decide +kernel, pz_at 644 rfl rfl, pz_at 93 rfl rfl, fun _ => ⟨pz_at 643 rfl rfl, pz_at 62 rfl rfl, pz_T5, 15, rfl, by decide +kernel⟩, fun h => by cases h⟩
set_option maxRecDepth 100000 in
theorem pz_k87 : pz_kok 87 := ⟨by decide +kernel, rfl, ⟨by decide +kernel, by decide +kernel⟩, by decide +kernel, by decide +kernel, pz_at 849 rfl rfl, pz_at 94 rfl rfl, (fun h => by cases h), fun _ => ⟨pz_at 848 rfl rfl, by decide +kernel⟩⟩
set_option maxRecDepth 100000 in
theorem pz_k88 : pz_kok 88 := ⟨by decide +kernel, rfl, ⟨by decide +kernel, by decide +kernel⟩, by decide +kernel, by decide +kernel, pz_at 846 rfl rfl, pz_at 94 rfl rfl, (fun h => by cases h), fun _ => ⟨pz_at 845 rfl rfl, by decide +kernel⟩⟩
set_option maxRecDepth 100000 in
theorem pz_k89 : pz_kok 89 := ⟨by decide +kernel, rfl, ⟨by decide +kernel, by decide +kernel⟩, by decide +kernel, by decide +kernel, pz_at 784 rfl rfl, pz_at 94 rfl rfl, fun _ => ⟨pz_at 783 rfl rfl, pz_at 75 rfl rfl, pz_T6, 24, rfl, by decide +kernel⟩, fun h => by cases h⟩
set_option maxRecDepth 100000 in
theorem pz_k90 : pz_kok 90 := ⟨by decide +kernel, rfl, ⟨by decide +kernel, by decide +kernel⟩, by decide +kernel, by decide +kernel, pz_at 737 rfl rfl, pz_at 94 rfl rfl, fun _ => ⟨pz_at 736 rfl rfl, pz_at 64 rfl rfl, pz_T6, 24, rfl, by decide +kernel⟩, fun h => by cases h⟩
set_option maxRecDepth 100000 in
theorem pz_k91 : pz_kok 91 := ⟨by decide +kernel, rfl, ⟨by decide +kernel, by decide +kernel⟩, by decide +kernel, by decide +kernel, pz_at 753 rfl rfl, pz_at 94 rfl rfl, fun _ => ⟨pz_at 752 rfl rfl, pz_at 68 rfl rfl, pz_T6, 24, rfl, by decide +kernel⟩, fun h => by cases h⟩
set_option maxRecDepth 100000 in
theorem pz_k92 : pz_kok 92 := ⟨by decide +kernel, rfl, ⟨by decide +kernel, by decide +kernel⟩, by decide +kernel, by decide +kernel, pz_at 764 rfl rfl, pz_at 94 rfl rfl, (fun h => by cases h), fun _ => ⟨pz_at 763 rfl rfl, by decide +kernel⟩⟩
set_option maxRecDepth 100000 in
theorem pz_k93 : pz_kok 93 := ⟨by decide +kernel, rfl, ⟨by decide +kernel, by decide +kernel⟩, by decide +kernel, by decide +kernel, pz_at 807 rfl rfl, pz_at 94 rfl rfl, (fun h => by cases h), fun _ => ⟨pz_at 806 rfl rfl, by decide +kernel⟩⟩
set_option maxRecDepth 100000 in
theorem pz_k94 : pz_kok 94 := ⟨by decide +kernel, rfl, ⟨by decide +kernel, by decide +kernel⟩, by decide +kernel, by decide +kernel, pz_at 772 rfl rfl, pz_at 94 rfl rfl, fun _ => ⟨pz_at 771 rfl rfl, pz_at 72 rfl rfl, pz_T6, 24, rfl, by decide +kernel⟩, fun h => by cases h⟩
set_option maxRecDepth 100000 in
theorem pz_k95 : pz_kok 95 := ⟨by decide +kernel, rfl, ⟨by decide +kernel, by decide +kernel⟩, by decide +kernel, by decide +kernel, pz_at 776 rfl rfl, pz_at 94 rfl rfl, fun _ => ⟨pz_at 775 rfl rfl, pz_at 73 rfl rfl, pz_T6, 24, rfl, by decide +kernel⟩, fun h => by cases h⟩
set_option maxRecDepth 100000 in
theorem pz_k96 : pz_kok 96 := ⟨by decide +kernel, rfl, ⟨by decide +kernel, by decide +kernel⟩, by decide +kernel, by decide +kernel, pz_at 733 rfl rfl, pz_at 94 rfl rfl, fun _ => ⟨pz_at 732 rfl rfl, pz_at 63 rfl rfl, pz_T6, 24, rfl, by decide +kernel⟩, fun h => by cases h⟩
set_option maxRecDepth 100000 in
theorem pz_k97 : pz_kok 97 := ⟨by decide +kernel, rfl, ⟨by decide +kernel, by decide +kernel⟩, by decide +kernel, by decide +kernel, pz_at 811 rfl rfl, pz_at 94 rfl rfl, fun _ => ⟨pz_at 810 rfl rfl, pz_at 81 rfl rfl, pz_T6, 24, rfl, by decide +kernel⟩, fun h => by cases h⟩
set_option maxRecDepth 100000 in
theorem pz_k98 : pz_kok 98 := ⟨by decide +kernel, rfl, ⟨by decide +kernel, by decide +kernel⟩, by decide +kernel, by decide +kernel, pz_at 761 rfl rfl, pz_at 94 rfl rfl, fun _ => ⟨pz_at 760 rfl rfl, pz_at 70 rfl rfl, pz_T6, 24, rfl, by decide +kernel⟩, fun h => by cases h⟩
set_option maxRecDepth 100000 in
theorem pz_k99 : pz_kok 99 := ⟨by decide +kernel, rfl, ⟨by decide +kernel, by decide +kernel⟩, by decide +kernel, by decide +kernel, pz_at 796 rfl rfl, pz_at 94 rfl rfl, fun _ => ⟨pz_at 795 rfl rfl, pz_at 78 rfl rfl, pz_T6, 24, rfl, by decide +kernel⟩, fun h => by cases h⟩
set_option maxRecDepth 100000 in
theorem pz_k100 : pz_kok 100 := ⟨by decide +kernel, rfl, ⟨by decide +kernel, by decide +kernel⟩, by decide +kernel, by decide +kernel, pz_at 800 rfl rfl, pz_at 94 rfl rfl, fun _ => ⟨pz_at 799 rfl rfl, pz_at 79 rfl rfl, pz_T6, 24, rfl, by decide +kernel⟩, fun h => by cases h⟩
set_option maxRecDepth 100000 in
theorem pz_k101 : pz_kok 101 := ⟨by decide +kernel, rfl, ⟨by decide +kernel, by decide +kernel⟩, by decide +kernel, by decide +kernel, pz_at 804 rfl rfl, pz_at 94 rfl rfl, fun _ => ⟨pz_at 803 rfl rfl, pz_at 80 rfl rfl, pz_T6, 24, rfl, by decide +kernel⟩, fun h => by cases h⟩
set_option maxRecDepth 100000 in
theorem pz_k102 : pz_kok 102 := ⟨by decide +kernel, rfl, ⟨by decide +kernel, by decide +kernel⟩, by decide +kernel, by decide +kernel, pz_at 792 rfl rfl, pz_at 94 rfl rfl, fun _ => ⟨pz_at 791 rfl rfl, pz_at 77 rfl rfl, pz_T6, 24, rfl, by decide +kernel⟩, fun h => by cases h⟩
set_option maxRecDepth 100000 in
theorem pz_k103 : pz_kok 103 := ⟨by decide +kernel, rfl, ⟨by decide +kernel, by decide +kernel⟩, by decide +kernel, by decide +kernel, pz_at 788 rfl rfl, pz_at 94 rfl rfl, fun _ => ⟨pz_at 787 rfl rfl, pz_at 76 rfl rfl, pz_T6, 24, rfl, by decide +kernel⟩, fun h => by cases h⟩
set_option maxRecDepth 100000 in
theorem pz_k104 : pz_kok 104 := ⟨by decide +kernel, rfl, ⟨by decide +kernel, by decide +kernel⟩, by decide +kernel, by decide +kernel, pz_at 815 rfl rfl, pz_at 94 rfl rfl, fun _ => ⟨pz_at 814 rfl rfl, pz_at 82 rfl rfl, pz_T6, 24, rfl, by decide +kernel⟩, fun h => by cases h⟩
set_option maxRecDepth 100000 in
theorem pz_k105 : pz_kok 105 := ⟨by decide +kernel, rfl, ⟨by decide +kernel, by decide +kernel⟩, by decide +kernel, by decide +kernel, pz_at 839 rfl rfl, pz_at 94 rfl rfl, fun _ => ⟨pz_at 838 rfl rfl, pz_at 86 rfl rfl, pz_T6, 24, rfl, by decide +kernel⟩, fun h => by cases h⟩
set_option maxRecDepth 100000 in
theorem pz_k106 : pz_kok 106 := ⟨by decide +kernel, rfl, ⟨by decide +kernel, by decide +kernel⟩, by decide +kernel, by decide +kernel, pz_at 768 rfl rfl, pz_at 94 rfl rfl, fun _ => ⟨pz_at 767 rfl rfl, pz_at 71 rfl rfl, pz_T6, 24, rfl, by decide +kernel⟩, fun h => by cases h⟩
set_option maxRecDepth 100000 in
theorem pz_k107 : pz_kok 107 := ⟨by decide +kernel, rfl, ⟨by decide +kernel, by decide +kernel⟩, by decide +kernel, by decide +kernel, pz_at 757 rfl rfl, pz_at 94 rfl rfl, fun _ => ⟨pz_at 756 rfl rfl, pz_at 69 rfl rfl, pz_T6, 24, rfl, by decide +kernel⟩, fun h => by cases h⟩
set_option maxRecDepth 100000 in
theorem pz_k108 : pz_kok 108 := ⟨by decide +kernel, rfl, ⟨by decide +kernel, by decide +kernel⟩, by decide +kernel, by decide +kernel, pz_at 749 rfl rfl, pz_at 94 rfl rfl, fun _ => ⟨pz_at 748 rfl rfl, pz_at 67 rfl rfl, pz_T6, 24, rfl, by decide +kernel⟩, fun h => by cases h⟩
set_option maxRecDepth 100000 in
theorem pz_k109 : pz_kok 109 := ⟨by decide +kernel, rfl, ⟨by decide +kernel, by decide +kernel⟩, by decide +kernel, by decide +kernel, pz_at 780 rfl rfl, pz_at 94 rfl rfl, fun _ => ⟨pz_at 779 rfl rfl, pz_at 74 rfl rfl, pz_T6, 24, rfl, by decide +kernel⟩, fun h => by cases h⟩
set_option maxRecDepth 100000 in
theorem pz_k110 : pz_kok 110 := ⟨by decide +kernel, rfl, ⟨by decide +kernel, by decide +kernel⟩, by decide +kernel, by decide +kernel, pz_at 745 rfl rfl, pz_at 94 rfl rfl, fun _ => ⟨pz_at 744 rfl rfl, pz_at 66 rfl rfl, pz_T6, 24, rfl, by decide +kernel⟩, fun h => by cases h⟩
set_option maxRecDepth 100000 in
theorem pz_k111 : pz_kok 111 := ⟨by decide +kernel, rfl, ⟨by decide +kernel, by decide +kernel⟩, by decide +kernel, by decide +kernel, pz_at 819 rfl rfl, pz_at 94 rfl rfl, fun _ => ⟨pz_at 818 rfl rfl, pz_at 83 rfl rfl, pz_T6, 24, rfl, by decide +kernel⟩, fun h => by cases h⟩
set_option maxRecDepth 100000 in
theorem pz_k112 : pz_kok 112 := ⟨by decide +kernel, rfl, ⟨by decide +kernel, by decide +kernel⟩, by decide +kernel, by decide +kernel, pz_at 823 rfl rfl, pz_at 94 rfl rfl, fun _ => ⟨pz_at 822 rfl rfl, pz_at 84 rfl rfl, pz_T6, 24, rfl, by decide +kernel⟩, fun h => by cases h⟩
set_option maxRecDepth 100000 in
theorem pz_k113 : pz_kok 113 := ⟨by decide +kernel, rfl, ⟨by decide +kernel, by decide +kernel⟩, by decide +kernel, by decide +kernel, pz_at 741 rfl rfl, pz_at 94 rfl rfl, fun _ => ⟨pz_at 740 rfl rfl, pz_at 65 rfl rfl, pz_T6, 24, rfl, by decide +kernel⟩, fun h => by cases h⟩
set_option maxRecDepth 100000 in
theorem pz_k114 : pz_kok 114 := ⟨by decide +kernel, rfl, ⟨by decide +kernel, by decide +kernel⟩, by decide +kernel, by decide +kernel, pz_at 729 rfl rfl, pz_at 94 rfl rfl, fun _ => ⟨pz_at 727 rfl rfl, pz_at 728 rfl rfl, pz_T6, 24, rfl, by decide +kernel⟩, fun h => by cases h⟩
set_option maxRecDepth 100000 in
theorem pz_k115 : pz_kok 115 := ⟨by decide +kernel, rfl, ⟨by decide +kernel, by decide +kernel⟩, by decide +kernel, by decide +kernel, pz_at 827 rfl rfl, pz_at 94 rfl rfl, fun _ => ⟨pz_at 825 rfl rfl, pz_at 826 rfl rfl, pz_T6, 24, rfl, by decide +kernel⟩, fun h => by cases h⟩
set_option maxRecDepth 100000 in
theorem pz_k116 : pz_kok 116 := ⟨by decide +kernel, rfl, ⟨by decide +kernel, by decide +kernel⟩, by decide +kernel, by decide +kernel, pz_at 835 rfl rfl, pz_at 94 rfl rfl, fun _ => ⟨pz_at 834 rfl rfl, pz_at 85 rfl rfl, pz_T6, 24, rfl, by decide +kernel⟩, fun h => by cases h⟩
set_option maxRecDepth 100000 in
theorem pz_k117 : pz_kok 117 := ⟨by decide +kernel, rfl, ⟨by decide +kernel, by decide +kernel⟩, by decide +kernel, by decide +kernel, pz_at 831 rfl rfl, pz_at 94 rfl rfl, fun _ => ⟨pz_at 829 rfl rfl, pz_at 830 rfl rfl, pz_T6, 24, rfl, by decide +kernel⟩, fun h => by cases h⟩
set_option maxRecDepth 100000 in
theorem pz_k118 : pz_kok 118 := ⟨by decide +kernel, rfl, ⟨by decide +kernel, by decide +kernel⟩, by decide +kernel, by decide +kernel, pz_at 843 rfl rfl, pz_at 94 rfl rfl, fun _ => ⟨pz_at 841 rfl rfl, pz_at 842 rfl rfl, pz_T6, 24, rfl, by decide +kernel⟩, fun h => by cases h⟩
set_option maxRecDepth 100000 in
theorem pz_k119 : pz_kok 119 := ⟨by decide +kernel, rfl, ⟨by decide +kernel, by decide +kernel⟩, by decide +kernel, by decide +kernel, pz_at 853 rfl rfl, pz_at 94 rfl rfl, fun _ => ⟨pz_at 851 rfl rfl, pz_at 852 rfl rfl, pz_T6, 24, rfl, by decide +kernel⟩, fun h => by cases h⟩
set_option maxRecDepth 100000 in
theorem pz_k120 : pz_kok 120 := ⟨by decide +kernel, rfl, ⟨by decide +kernel, by decide +kernel⟩, by decide +kernel, by decide +kernel, pz_at 857 rfl rfl, pz_at 94 rfl rfl, fun _ => ⟨pz_at 855 rfl rfl, pz_at 856 rfl rfl, pz_T6, 24, rfl, by decide +kernel⟩, fun h => by cases h⟩
set_option maxRecDepth 100000 in
theorem pz_k121 : pz_kok 121 := ⟨by decide +kernel, rfl, ⟨by decide +kernel, by decide +kernel⟩, by decide +kernel, by decide +kernel, pz_at 861 rfl rfl, pz_at 94 rfl rfl, fun _ => ⟨pz_at 859 rfl rfl, pz_at 860 rfl rfl, pz_T6, 24, rfl, by decide +kernel⟩, fun h => by cases h⟩
set_option maxRecDepth 100000 in
theorem pz_k122 : pz_kok 122 := ⟨by decide +kernel, rfl, ⟨by decide +kernel, by decide +kernel⟩, by decide +kernel, by decide +kernel, pz_at 865 rfl rfl, pz_at 94 rfl rfl, fun _ => ⟨pz_at 863 rfl rfl, pz_at 864 rfl rfl, pz_T6, 24, rfl, by decide +kernel⟩, fun h => by cases h⟩
set_option maxRecDepth 100000 in
theorem pz_k123 : pz_kok 123 := ⟨by decide +kernel, rfl, ⟨by decide +kernel, by decide +kernel⟩, by decide +kernel, by decide +kernel, pz_at 869 rfl rfl, pz_at 94 rfl rfl, fun _ => ⟨pz_at 867 rfl rfl, pz_at 868 rfl rfl, pz_T6, 24, rfl, by decide +kernel⟩, fun h => by cases h⟩
set_option maxRecDepth 100000 in
theorem pz_k124 : pz_kok 124 := ⟨by decide +kernel, rfl, ⟨by decide +kernel, by decide +kernel⟩, by decide +kernel, by decide +kernel, pz_at 873 rfl rfl, pz_at 94 rfl rfl, fun _ => ⟨pz_at 871 rfl rfl, pz_at 872 rfl rfl, pz_T6, 24, rfl, by decide +kernel⟩, fun h => by cases h⟩
set_option maxRecDepth 100000 in
theorem pz_k125 : pz_kok 125 := ⟨by decide +kernel, rfl, ⟨by decide +kernel, by decide +kernel⟩, by decide +kernel, by decide +kernel, pz_at 877 rfl rfl, pz_at 94 rfl rfl, fun _ => ⟨pz_at 875 rfl rfl, pz_at 876 rfl rfl, pz_T6, 24, rfl, by decide +kernel⟩, fun h => by cases h⟩
set_option maxRecDepth 100000 in
theorem pz_k126 : pz_kok 126 := ⟨by decide +kernel, rfl, ⟨by decide +kernel, by decide +kernel⟩, by decide +kernel, by decide +kernel, pz_at 881 rfl rfl, pz_at 94 rfl rfl, fun _ => ⟨pz_at 879 rfl rfl, pz_at 880 rfl rfl, pz_T6, 24, rfl, by decide +kernel⟩, fun h => by cases h⟩
set_option maxRecDepth 100000 in
theorem pz_k127 : pz_kok 127 := ⟨by decide +kernel, rfl, ⟨by decide +kernel, by decide +kernel⟩, by decide +kernel, by decide +kernel, pz_at 885 rfl rfl, pz_at 94 rfl rfl, fun _ => ⟨pz_at 883 rfl rfl, pz_at 884 rfl rfl, pz_T6, 24, rfl, by decide +kernel⟩, fun h => by cases h⟩
set_option maxRecDepth 100000 in
theorem pz_k128 : pz_kok 128 := ⟨by decide +kernel, rfl, ⟨by decide +kernel, by decide +kernel⟩, by decide +kernel, by decide +kernel, pz_at 889 rfl rfl, pz_at 94 rfl rfl, fun _ => ⟨pz_at 887 rfl rfl, pz_at 888 rfl rfl, pz_T6, 24, rfl, by decide +kernel⟩, fun h => by cases h⟩
def pz_ks : List Nat := [1, 2, 3, 4, 5, 6, 7, 8, 9, 10, 11, 12, 13, 14, 15, 16, 17, 18, 19, 20, 21, 22, 23, 24, 25, 26, 27, 28, 29, 30, 31, 32, 33, 34, 36, 37, 38, 39, 40, 41, 42, 43, 44, 45, 46, 47, 49, 50, 51, 52, 53, 54, 55, 56, 57, 58, 59, 60, 61, 62, 63, 65, 66, 67, 68, 69, 70, 71, 73, 74, 75, 76, 77, 78, 79, 81, 82, 83, 84, 85, 87, 88, 89, 90, 91, 92, 93, 94, 95, 96, 97, 98, 99, 100, 101, 102, 103, 104, 105, 106, 107, 108, 109, 110, 111, 112, 113, 114, 115, 116, 117, 118, 119, 120, 121, 122, 123, 124, 125, 126, 127, 128]
theorem pz_kall : ∀ k ∈ pz_ks, pz_kok k := List.forall_mem_cons.mpr ⟨pz_k1, List.forall_mem_cons.mpr ⟨pz_k2, List.forall_mem_cons.mpr ⟨pz_k3, List.forall_mem_cons.mpr ⟨pz_k4, List.forall_mem_cons.mpr ⟨pz_k5, List.forall_mem_cons.mpr ⟨pz_k6, List.forall_mem_cons.mpr ⟨pz_k7, List.forall_mem_cons.mpr ⟨pz_k8, List.forall_mem_cons.mpr ⟨pz_k9, List.forall_mem_cons.mpr ⟨pz_k10, List.forall_mem_cons.mpr ⟨pz_k11, List.forall_mem_cons.mpr ⟨pz_k12, List.forall_mem_cons.mpr ⟨pz_k13, List.forall_mem_cons.mpr ⟨pz_k14, List.forall_mem_cons.mpr ⟨pz_k15, List.forall_mem_cons.mpr ⟨pz_k16, List.forall_mem_cons.mpr ⟨pz_k17, List.forall_mem_cons.mpr ⟨pz_k18, List.forall_mem_cons.mpr ⟨pz_k19, List.forall_mem_cons.mpr ⟨pz_k20, List.forall_mem_cons.mpr ⟨pz_k21, List.forall_mem_cons.mpr ⟨pz_k22, List.forall_mem_cons.mpr ⟨pz_k23, List.forall_mem_cons.mpr ⟨pz_k24, List.forall_mem_cons.mpr ⟨pz_k25, List.forall_mem_cons.mpr ⟨pz_k26, List.forall_mem_cons.mpr ⟨pz_k27, List.forall_mem_cons.mpr ⟨pz_k28, List.forall_mem_cons.mpr ⟨pz_k29, List.forall_mem_cons.mpr ⟨pz_k30, List.forall_mem_cons.mpr ⟨pz_k31, List.forall_mem_cons.mpr ⟨pz_k32, List.forall_mem_cons.mpr ⟨pz_k33, List.forall_mem_cons.mpr ⟨pz_k34, List.forall_mem_cons.mpr ⟨pz_k36, List.forall_mem_cons.mpr ⟨pz_k37, List.forall_mem_cons.mpr ⟨pz_k38, List.forall_mem_cons.mpr ⟨pz_k39, List.forall_mem_cons.mpr ⟨pz_k40, List.forall_mem_cons.mpr ⟨pz_k41, List.forall_mem_cons.mpr ⟨pz_k42, List.forall_mem_cons.mpr ⟨pz_k43, List.forall_mem_cons.mpr ⟨pz_k44, List.forall_mem_cons.mpr ⟨pz_k45, List.forall_mem_cons.mpr ⟨pz_k46, List.forall_mem_cons.mpr ⟨pz_k47, List.forall_mem_cons.mpr ⟨pz_k49, List.forall_mem_cons.mpr ⟨pz_k50, List.forall_mem_cons.mpr ⟨pz_k51, List.forall_mem_cons.mpr ⟨pz_k52, List.forall_mem_cons.mpr ⟨pz_k53, List.forall_mem_cons.mpr ⟨pz_k54, List.forall_mem_cons.mpr ⟨pz_k55, List.forall_mem_cons.mpr ⟨pz_k56, List.forall_mem_cons.mpr ⟨pz_k57, List.forall_mem_cons.mpr ⟨pz_k58, List.forall_mem_cons.mpr ⟨pz_k59, List.forall_mem_cons.mpr ⟨pz_k60, List.forall_mem_cons.mpr ⟨pz_k61, List.forall_mem_cons.mpr ⟨pz_k62, List.forall_mem_cons.mpr ⟨pz_k63, List.forall_mem_cons.mpr ⟨pz_k65, List.forall_mem_cons.mpr ⟨pz_k66, List.forall_mem_cons.mpr ⟨pz_k67, List.forall_mem_cons.mpr ⟨pz_k68, List.forall_mem_cons.mpr ⟨pz_k69, List.forall_mem_cons.mpr ⟨pz_k70, List.forall_mem_cons.mpr ⟨pz_k71, List.forall_mem_cons.mpr ⟨pz_k73, List.forall_mem_cons.mpr ⟨pz_k74, List.forall_mem_cons.mpr ⟨pz_k75, List.forall_mem_cons.mpr ⟨pz_k76, List.forall_mem_cons.mpr ⟨pz_k77, List.forall_mem_cons.mpr ⟨pz_k78, List.forall_mem_cons.mpr ⟨pz_k79, List.forall_mem_cons.mpr ⟨pz_k81, List.forall_mem_cons.mpr ⟨pz_k82, List.forall_mem_cons.mpr ⟨pz_k83, List.forall_mem_cons.mpr ⟨pz_k84, List.forall_mem_cons.mpr ⟨pz_k85, List.forall_mem_cons.mpr ⟨pz_k87, List.forall_mem_cons.mpr ⟨pz_k88, List.forall_mem_cons.mpr ⟨pz_k89, List.forall_mem_cons.mpr ⟨pz_k90, List.forall_mem_cons.mpr ⟨pz_k91, List.forall_mem_cons.mpr ⟨pz_k92, List.forall_mem_cons.mpr ⟨pz_k93, List.forall_mem_cons.mpr ⟨pz_k94, List.forall_mem_cons.mpr ⟨pz_k95, List.forall_mem_cons.mpr ⟨pz_k96, List.forall_mem_cons.mpr ⟨pz_k97, List.forall_mem_cons.mpr ⟨pz_k98, List.forall_mem_cons.mpr ⟨pz_k99, List.forall_mem_cons.mpr ⟨pz_k100, List.forall_mem_cons.mpr ⟨pz_k101, List.forall_mem_cons.mpr ⟨pz_k102, List.forall_mem_cons.mpr ⟨pz_k103, List.forall_mem_cons.mpr ⟨pz_k104, List.forall_mem_cons.mpr ⟨pz_k105, List.forall_mem_cons.mpr ⟨pz_k106, List.forall_mem_cons.mpr ⟨pz_k107, List.forall_mem_cons.mpr ⟨pz_k108, List.forall_mem_cons.mpr ⟨pz_k109, List.forall_mem_cons.mpr ⟨pz_k110, List.forall_mem_cons.mpr ⟨pz_k111, List.forall_mem_cons.mpr ⟨pz_k112, List.forall_mem_cons.mpr ⟨pz_k113, List.forall_mem_cons.mpr ⟨pz_k114, List.forall_mem_cons.mpr ⟨pz_k115, List.forall_mem_cons.mpr ⟨pz_k116, List.forall_mem_cons.mpr ⟨pz_k117, List.forall_mem_cons.mpr ⟨pz_k118, List.forall_mem_cons.mpr ⟨pz_k119, List.forall_mem_cons.mpr ⟨pz_k120, List.forall_mem_cons.mpr ⟨pz_k121, List.forall_mem_cons.mpr ⟨pz_k122, List.forall_mem_cons.mpr ⟨pz_k123, List.forall_mem_cons.mpr ⟨pz_k124, List.forall_mem_cons.mpr ⟨pz_k125, List.forall_mem_cons.mpr ⟨pz_k126, List.forall_mem_cons.mpr ⟨pz_k127, List.forall_mem_cons.mpr ⟨pz_k128, fun _ h => absurd h List.not_mem_nil⟩⟩⟩⟩⟩⟩⟩⟩⟩⟩⟩⟩⟩⟩⟩⟩⟩⟩⟩⟩⟩⟩⟩⟩⟩⟩⟩⟩⟩⟩⟩⟩⟩⟩⟩⟩⟩⟩⟩⟩⟩⟩⟩⟩⟩⟩⟩⟩⟩⟩⟩⟩⟩⟩⟩⟩⟩⟩⟩⟩⟩⟩⟩⟩⟩⟩⟩⟩⟩⟩⟩⟩⟩⟩⟩⟩⟩⟩⟩⟩⟩⟩⟩⟩⟩⟩⟩⟩⟩⟩⟩⟩⟩⟩⟩⟩⟩⟩⟩⟩⟩⟩⟩⟩⟩⟩⟩⟩⟩⟩⟩⟩⟩⟩⟩⟩⟩⟩⟩⟩⟩⟩
theorem pz_mls_in : pz_mls.all (fun e => pz_ks.contains e.2.2.1) = true := by decide +kernel
theorem pz_mth_ok {kc idx k : Nat} (h : pz_mth kc idx = some k) : (Jvm.Cond.methodLink (pz_on kc) idx (pz_y k) ∈ pz_ws ∨ ∃ host, Jvm.Cond.methodLinkNest (pz_on kc) idx (pz_y k) host ∈ pz_nw) ∧ pz_kok k := by
  unfold pz_mth at h
  obtain ⟨e, he, h2⟩ := Option.map_eq_some_iff.mp h
  have hm := List.mem_of_find?_eq_some he
  have hp := List.find?_some he
  obtain ⟨e1, e2, e3, e4⟩ := e
  simp only [Bool.and_eq_true, beq_iff_eq] at hp
  obtain ⟨rfl, rfl⟩ := hp
  dsimp only at h2
  subst h2
  have hc := List.all_eq_true.mp pz_mck_all _ hm
  have hi := List.all_eq_true.mp pz_mls_in _ hm
  simp only [List.contains_iff_mem] at hi
  refine ⟨?_, pz_kall _ hi⟩
  unfold pz_mck at hc
  simp only [Bool.or_eq_true, decide_eq_true_eq] at hc
  rcases hc with h3 | h3
  · exact Or.inl (pz_at _ h3 rfl)
  · exact Or.inr ⟨_, pz_atn _ h3 rfl⟩
def pz_mx (kc idx : Nat) : Bool := kc == 2 && idx == 44
set_option maxRecDepth 100000 in
theorem pz_mx_ok {kc idx : Nat} (h : pz_mx kc idx = true) : Jvm.Cond.methodLink (pz_on kc) idx Lib.Math.max.name ∈ pz_ws ∧ Jvm.Cond.static Lib.Math.max.name ∈ pz_ws ∧ Jvm.Cond.initialized "java/lang/Math" ∈ pz_ws ∧ Jvm.Cond.code Lib.Math.max.name Lib.Math.max.code 2 (some .int) ∈ pz_ws := by
  unfold pz_mx at h
  simp only [Bool.and_eq_true, beq_iff_eq] at h
  obtain ⟨rfl, rfl⟩ := h
  exact ⟨pz_at 477 rfl rfl, pz_at 478 rfl rfl, pz_at 95 rfl rfl, pz_at 479 rfl rfl⟩
def pz_mn (kc idx : Nat) : Bool := kc == 2 && idx == 50
set_option maxRecDepth 100000 in
theorem pz_mn_ok {kc idx : Nat} (h : pz_mn kc idx = true) : Jvm.Cond.methodLink (pz_on kc) idx Lib.Math.min.name ∈ pz_ws ∧ Jvm.Cond.static Lib.Math.min.name ∈ pz_ws ∧ Jvm.Cond.initialized "java/lang/Math" ∈ pz_ws ∧ Jvm.Cond.code Lib.Math.min.name Lib.Math.min.code 2 (some .int) ∈ pz_ws := by
  unfold pz_mn at h
  simp only [Bool.and_eq_true, beq_iff_eq] at h
  obtain ⟨rfl, rfl⟩ := h
  exact ⟨pz_at 480 rfl rfl, pz_at 481 rfl rfl, pz_at 95 rfl rfl, pz_at 482 rfl rfl⟩
theorem pz_ty_r {dA : Nat → ClassId} {t : Nat} (h : t = 2 ∨ t = 3 ∨ t = 4 ∨ t = 5) : ∃ C, (pz_ty dA)[t]? = some (dA t, .object C) := by
  rcases h with rfl | rfl | rfl | rfl
  · exact ⟨_, rfl⟩
  · exact ⟨_, rfl⟩
  · exact ⟨_, rfl⟩
  · exact ⟨_, rfl⟩
theorem pz_ty_s {dA : Nat → ClassId} {ci : Nat} {r : vw_C} (h : pz_ct ci < 6) (hr : pz_cs[ci]? = some r) : (pz_ty dA)[pz_ct ci]? = some (dA (pz_ct ci), .object r.1) := by
  rcases pz_cs_at hr with ⟨rfl, rfl⟩ | ⟨rfl, rfl⟩ | ⟨rfl, rfl⟩ | ⟨rfl, rfl⟩ | ⟨rfl, rfl⟩ | ⟨rfl, rfl⟩ | ⟨rfl, rfl⟩
  · exact absurd h (by decide)
  · rfl
  · rfl
  · rfl
  · exact absurd h (by decide)
  · rfl
  · exact absurd h (by decide)
end
section
/-! the pure machine: cells by address; a step as a function; a run as a least predicate; its laws -/
abbrev pz_F : Type := Nat → Option va_E
def pz_up (f : pz_F) (a : Nat) (e : va_E) : pz_F := fun b => if b = a then some e else f b
theorem pz_up_s (f : pz_F) (a : Nat) (e : va_E) : pz_up f a e a = some e := by simp [pz_up]
theorem pz_up_n (f : pz_F) {a b : Nat} (e : va_E) (h : b ≠ a) : pz_up f a e b = f b := by simp [pz_up, h]
abbrev pz_S : Type := Nat × List Value × List Value × pz_F
abbrev pz_A : Type := pz_S ⊕ (Nat × List Value × List Value) ⊕ Option Value
/-- a field is read -/
def pz_gf (f : pz_F) (a ci j : Nat) : Option Value := match f a with
  | some (.inr o) => if o.1 = ci then o.2[j]? else none
  | _ => none
theorem pz_gf_inv {f : pz_F} {a ci j : Nat} {v : Value} (h : pz_gf f a ci j = some v) : ∃ fs, f a = some (.inr (ci, fs)) ∧ fs[j]? = some v := by
  unfold pz_gf at h
  split at h
  · rename_i o ho
    split at h
    · rename_i hc
      obtain ⟨o1, o2⟩ := o
      subst hc
      exact ⟨o2, ho, h⟩
    · cases h
  · cases h
/-- is it an object of that number -/
def pz_gu (f : pz_F) (a ci : Nat) : Option Unit := match f a with
  | some (.inr o) => if o.1 = ci then some () else none
  | _ => none
theorem pz_gu_inv {f : pz_F} {a ci : Nat} {v : Unit} (h : pz_gu f a ci = some v) : ∃ fs, f a = some (.inr (ci, fs)) := by
  unfold pz_gu at h
  split at h
  · rename_i o ho
    split at h
    · rename_i hc
      obtain ⟨o1, o2⟩ := o
      subst hc
      exact ⟨o2, ho⟩
    · cases h
  · cases h
/-- a field is written -/
def pz_pf (f : pz_F) (a ci j : Nat) (v : Value) : Option pz_F := match f a with
  | some (.inr o) => if o.1 = ci ∧ j < o.2.length then some (pz_up f a (.inr (ci, o.2.set j v))) else none
  | _ => none
theorem pz_pf_inv {f f' : pz_F} {a ci j : Nat} {v : Value} (h : pz_pf f a ci j v = some f') : ∃ fs, f a = some (.inr (ci, fs)) ∧ j < fs.length ∧ f' = pz_up f a (.inr (ci, fs.set j v)) := by
  unfold pz_pf at h
  split at h
  · rename_i o ho
    split at h
    · rename_i hc
      obtain ⟨o1, o2⟩ := o
      obtain ⟨h1, h2⟩ := hc
      dsimp only at h1 h2 ho h
      subst h1
      exact ⟨o2, ho, h2, (Option.some.inj h).symm⟩
    · cases h
  · cases h
/-- an array of ints (or booleans) -/
def pz_il (cA : ClassId) (f : pz_F) (a : Nat) (i : Int32) : Option Int32 := match f a with
  | some (.inl (c, n, .inl g)) => if c = cA ∧ ¬ (i < 0 ∨ n ≤ i.toNatClampNeg) then some (g i.toNatClampNeg) else none
  | _ => none
theorem pz_il_inv {cA : ClassId} {f : pz_F} {a : Nat} {i v : Int32} (h : pz_il cA f a i = some v) : ∃ n g, f a = some (.inl (cA, n, .inl g)) ∧ vp_in i n ∧ g i.toNatClampNeg = v := by
  unfold pz_il at h
  split at h
  · rename_i c n g ho
    split at h
    · rename_i hc
      obtain ⟨h1, h2⟩ := hc
      subst h1
      exact ⟨n, g, ho, h2, Option.some.inj h⟩
    · cases h
  · cases h
def pz_is (cA : ClassId) (f : pz_F) (a : Nat) (i x : Int32) : Option pz_F := match f a with
  | some (.inl (c, n, .inl g)) => if c = cA ∧ ¬ (i < 0 ∨ n ≤ i.toNatClampNeg) then some (pz_up f a (.inl (cA, n, .inl (upd g i.toNatClampNeg x)))) else none
  | _ => none
theorem pz_is_inv {cA : ClassId} {f f' : pz_F} {a : Nat} {i x : Int32} (h : pz_is cA f a i x = some f') : ∃ n g, f a = some (.inl (cA, n, .inl g)) ∧ vp_in i n ∧ f' = pz_up f a (.inl (cA, n, .inl (upd g i.toNatClampNeg x))) := by
  unfold pz_is at h
  split at h
  · rename_i c n g ho
    split at h
    · rename_i hc
      obtain ⟨h1, h2⟩ := hc
      subst h1
      exact ⟨n, g, ho, h2, (Option.some.inj h).symm⟩
    · cases h
  · cases h
/-- an array of references -/
def pz_rl (dA : Nat → ClassId) (f : pz_F) (a : Nat) (i : Int32) : Option Value := match f a with
  | some (.inl (c, n, .inr (.inr (.inr (.inr g))))) => if (c = dA 2 ∨ c = dA 3 ∨ c = dA 4 ∨ c = dA 5) ∧ ¬ (i < 0 ∨ n ≤ i.toNatClampNeg) then some (va_rf (g i.toNatClampNeg)) else none
  | _ => none
theorem pz_rl_inv {dA : Nat → ClassId} {f : pz_F} {a : Nat} {i : Int32} {v : Value} (h : pz_rl dA f a i = some v) : ∃ t n g, (t = 2 ∨ t = 3 ∨ t = 4 ∨ t = 5) ∧ f a = some (.inl (dA t, n, .inr (.inr (.inr (.inr g))))) ∧ vp_in i n ∧ va_rf (g i.toNatClampNeg) = v := by
  unfold pz_rl at h
  split at h
  · rename_i c n g ho
    split at h
    · rename_i hc
      obtain ⟨h1, h2⟩ := hc
      rcases h1 with h1 | h1 | h1 | h1
      · exact ⟨2, n, g, Or.inl rfl, by rw [ho, h1], h2, Option.some.inj h⟩
      · exact ⟨3, n, g, Or.inr (Or.inl rfl), by rw [ho, h1], h2, Option.some.inj h⟩
      · exact ⟨4, n, g, Or.inr (Or.inr (Or.inl rfl)), by rw [ho, h1], h2, Option.some.inj h⟩
      · exact ⟨5, n, g, Or.inr (Or.inr (Or.inr rfl)), by rw [ho, h1], h2, Option.some.inj h⟩
    · cases h
  · cases h
def pz_rs (dA : Nat → ClassId) (f : pz_F) (a : Nat) (i : Int32) (q : Nat) : Option pz_F := match f a, f q with
  | some (.inl (c, n, .inr (.inr (.inr (.inr g))))), some (.inr o) => if (pz_ct o.1 < 6 ∧ c = dA (pz_ct o.1)) ∧ ¬ (i < 0 ∨ n ≤ i.toNatClampNeg) then some (pz_up f a (.inl (c, n, .inr (.inr (.inr (.inr (va_up g i.toNatClampNeg (some q)))))))) else none
  | _, _ => none
theorem pz_rs_inv {dA : Nat → ClassId} {f f' : pz_F} {a q : Nat} {i : Int32} (h : pz_rs dA f a i q = some f') : ∃ n g ci fs, pz_ct ci < 6 ∧ f a = some (.inl (dA (pz_ct ci), n, .inr (.inr (.inr (.inr g))))) ∧ f q = some (.inr (ci, fs)) ∧ vp_in i n ∧ f' = pz_up f a (.inl (dA (pz_ct ci), n, .inr (.inr (.inr (.inr (va_up g i.toNatClampNeg (some q))))))) := by
  unfold pz_rs at h
  split at h
  · rename_i c n g o ho hq
    split at h
    · rename_i hc
      obtain ⟨⟨h0, h1⟩, h2⟩ := hc
      obtain ⟨o1, o2⟩ := o
      subst h1
      exact ⟨n, g, o1, o2, h0, ho, hq, h2, (Option.some.inj h).symm⟩
    · cases h
  · cases h
/-! shapes of the stack and of the locals -/
def pz_g1 {β : Type} (n m : Nat) (z : Option β) : Option β := if n = m then z else none
theorem pz_g1_inv {β : Type} {n m : Nat} {z : Option β} {y : β} (h : pz_g1 n m z = some y) : n = m ∧ z = some y := by
  unfold pz_g1 at h
  split at h
  · exact ⟨by assumption, h⟩
  · cases h
def pz_sv {β : Type} (st : List Value) (K : Value → List Value → Option β) : Option β := match st with
  | v :: r => K v r
  | _ => none
theorem pz_sv_inv {β : Type} {st : List Value} {K : Value → List Value → Option β} {z : β} (h : pz_sv st K = some z) : ∃ v r, st = v :: r ∧ K v r = some z := by
  unfold pz_sv at h
  split at h
  · exact ⟨_, _, rfl, h⟩
  · cases h
def pz_si {β : Type} (st : List Value) (K : Int32 → List Value → Option β) : Option β := match st with
  | .int x :: r => K x r
  | _ => none
theorem pz_si_inv {β : Type} {st : List Value} {K : Int32 → List Value → Option β} {z : β} (h : pz_si st K = some z) : ∃ x r, st = .int x :: r ∧ K x r = some z := by
  unfold pz_si at h
  split at h
  · exact ⟨_, _, rfl, h⟩
  · cases h
def pz_sii {β : Type} (st : List Value) (K : Int32 → Int32 → List Value → Option β) : Option β := match st with
  | .int y :: .int x :: r => K x y r
  | _ => none
theorem pz_sii_inv {β : Type} {st : List Value} {K : Int32 → Int32 → List Value → Option β} {z : β} (h : pz_sii st K = some z) : ∃ x y r, st = .int y :: .int x :: r ∧ K x y r = some z := by
  unfold pz_sii at h
  split at h
  · exact ⟨_, _, _, rfl, h⟩
  · cases h
def pz_sr {β : Type} (st : List Value) (K : Nat → List Value → Option β) : Option β := match st with
  | .ref a :: r => K a r
  | _ => none
theorem pz_sr_inv {β : Type} {st : List Value} {K : Nat → List Value → Option β} {z : β} (h : pz_sr st K = some z) : ∃ a r, st = .ref a :: r ∧ K a r = some z := by
  unfold pz_sr at h
  split at h
  · exact ⟨_, _, rfl, h⟩
  · cases h
def pz_svv {β : Type} (st : List Value) (K : Value → Value → List Value → Option β) : Option β := match st with
  | v :: w :: r => K v w r
  | _ => none
theorem pz_svv_inv {β : Type} {st : List Value} {K : Value → Value → List Value → Option β} {z : β} (h : pz_svv st K = some z) : ∃ v w r, st = v :: w :: r ∧ K v w r = some z := by
  unfold pz_svv at h
  split at h
  · exact ⟨_, _, _, rfl, h⟩
  · cases h
def pz_svr {β : Type} (st : List Value) (K : Value → Nat → List Value → Option β) : Option β := match st with
  | v :: .ref a :: r => K v a r
  | _ => none
theorem pz_svr_inv {β : Type} {st : List Value} {K : Value → Nat → List Value → Option β} {z : β} (h : pz_svr st K = some z) : ∃ v a r, st = v :: .ref a :: r ∧ K v a r = some z := by
  unfold pz_svr at h
  split at h
  · exact ⟨_, _, _, rfl, h⟩
  · cases h
def pz_sir {β : Type} (st : List Value) (K : Int32 → Nat → List Value → Option β) : Option β := match st with
  | .int i :: .ref a :: r => K i a r
  | _ => none
theorem pz_sir_inv {β : Type} {st : List Value} {K : Int32 → Nat → List Value → Option β} {z : β} (h : pz_sir st K = some z) : ∃ i a r, st = .int i :: .ref a :: r ∧ K i a r = some z := by
  unfold pz_sir at h
  split at h
  · exact ⟨_, _, _, rfl, h⟩
  · cases h
def pz_siir {β : Type} (st : List Value) (K : Int32 → Int32 → Nat → List Value → Option β) : Option β := match st with
  | .int x :: .int i :: .ref a :: r => K x i a r
  | _ => none
theorem pz_siir_inv {β : Type} {st : List Value} {K : Int32 → Int32 → Nat → List Value → Option β} {z : β} (h : pz_siir st K = some z) : ∃ x i a r, st = .int x :: .int i :: .ref a :: r ∧ K x i a r = some z := by
  unfold pz_siir at h
  split at h
  · exact ⟨_, _, _, _, rfl, h⟩
  · cases h
def pz_srir {β : Type} (st : List Value) (K : Nat → Int32 → Nat → List Value → Option β) : Option β := match st with
  | .ref q :: .int i :: .ref a :: r => K q i a r
  | _ => none
theorem pz_srir_inv {β : Type} {st : List Value} {K : Nat → Int32 → Nat → List Value → Option β} {z : β} (h : pz_srir st K = some z) : ∃ q i a r, st = .ref q :: .int i :: .ref a :: r ∧ K q i a r = some z := by
  unfold pz_srir at h
  split at h
  · exact ⟨_, _, _, _, rfl, h⟩
  · cases h
def pz_li {β : Type} (ls : List Value) (i : Nat) (K : Int32 → Option β) : Option β := match ls[i]? with
  | some (.int x) => K x
  | _ => none
theorem pz_li_inv {β : Type} {ls : List Value} {i : Nat} {K : Int32 → Option β} {z : β} (h : pz_li ls i K = some z) : ∃ x, ls[i]? = some (.int x) ∧ K x = some z := by
  unfold pz_li at h
  split at h
  · rename_i x hx
    exact ⟨x, hx, h⟩
  · cases h
def pz_la {β : Type} (ls : List Value) (i : Nat) (K : Value → Option β) : Option β := match ls[i]? with
  | some (.ref a) => K (.ref a)
  | some .null => K .null
  | _ => none
theorem pz_la_inv {β : Type} {ls : List Value} {i : Nat} {K : Value → Option β} {z : β} (h : pz_la ls i K = some z) : (∃ a, ls[i]? = some (.ref a) ∧ K (.ref a) = some z) ∨ (ls[i]? = some .null ∧ K .null = some z) := by
  unfold pz_la at h
  split at h
  · rename_i a ha
    exact Or.inl ⟨a, ha, h⟩
  · rename_i ha
    exact Or.inr ⟨ha, h⟩
  · cases h
def pz_ra {β : Type} (v : Value) (K : Option β) : Option β := match v with
  | .ref _ => K
  | .null => K
  | _ => none
theorem pz_ra_inv {β : Type} {v : Value} {K : Option β} {z : β} (h : pz_ra v K = some z) : ((∃ a, v = .ref a) ∨ v = .null) ∧ K = some z := by
  unfold pz_ra at h
  split at h
  · exact ⟨Or.inl ⟨_, rfl⟩, h⟩
  · exact ⟨Or.inr rfl, h⟩
  · cases h
def pz_j {β : Type} (pc : Nat) (off : Int) (K : Nat → Option β) : Option β := if (pc : Int) + off = (((pc : Int) + off).toNat : Int) then K ((pc : Int) + off).toNat else none
theorem pz_j_inv {β : Type} {pc : Nat} {off : Int} {K : Nat → Option β} {z : β} (h : pz_j pc off K = some z) : ∃ tgt : Nat, (pc : Int) + off = (tgt : Int) ∧ K tgt = some z := by
  unfold pz_j at h
  split at h
  · exact ⟨_, by assumption, h⟩
  · cases h
def pz_br {β : Type} (c : Jvm.ClassFile.Cond) (x y : Int32) (A B : β) : β := match c with
  | .eq => if x = y then A else B
  | .ne => if x = y then B else A
  | .lt => if x < y then A else B
  | .ge => if y ≤ x then A else B
  | .gt => if y < x then A else B
  | .le => if x ≤ y then A else B
/-- do the values fit the parameters: true an int, false a reference -/
def pz_pk : List Bool → List Value → Bool
  | [], [] => true
  | true :: bs, .int _ :: vs => pz_pk bs vs
  | false :: bs, .ref _ :: vs => pz_pk bs vs
  | _, _ => false
/-- the locals at a method's entry -/
def pz_lc (k : Nat) (as : List Value) : List Value := as ++ List.replicate (pz_n k - as.length) (.retAddr 0)
/-- an instruction's effect -/
def pz_ex (dA : Nat → ClassId) (k pc n : Nat) (ls st : List Value) (f : pz_F) (i : Instr) : Option pz_S := match i with
  | .iconst c => pz_g1 n 1 (some ((pc + 1, ls, .int (Int32.ofInt c) :: st, f)))
  | .bipush c => pz_g1 n 2 (some ((pc + 2, ls, .int (Int8.ofInt c).toInt32 :: st, f)))
  | .sipush c => pz_g1 n 3 (some ((pc + 3, ls, .int (Int16.ofInt c).toInt32 :: st, f)))
  | .aconst_null => pz_g1 n 1 (some ((pc + 1, ls, .null :: st, f)))
  | .iload_n j => pz_g1 n 1 (pz_li ls j.val fun x => some ((pc + 1, ls, .int x :: st, f)))
  | .iload j => pz_g1 n 2 (pz_li ls j fun x => some ((pc + 2, ls, .int x :: st, f)))
  | .aload_n j => pz_g1 n 1 (pz_la ls j.val fun v => some ((pc + 1, ls, v :: st, f)))
  | .aload j => pz_g1 n 2 (pz_la ls j fun v => some ((pc + 2, ls, v :: st, f)))
  | .istore_n j => pz_g1 n 1 (pz_si st fun x r => if j.val < ls.length then some ((pc + 1, ls.set j.val (.int x), r, f)) else none)
  | .istore j => pz_g1 n 2 (pz_si st fun x r => if j < ls.length then some ((pc + 2, ls.set j (.int x), r, f)) else none)
  | .astore_n j => pz_g1 n 1 (pz_sv st fun v r => pz_ra v (if j.val < ls.length then some ((pc + 1, ls.set j.val v, r, f)) else none))
  | .astore j => pz_g1 n 2 (pz_sv st fun v r => pz_ra v (if j < ls.length then some ((pc + 2, ls.set j v, r, f)) else none))
  | .iinc j c => pz_g1 n 3 (pz_li ls j fun x => some ((pc + 3, ls.set j (.int (x + Int32.ofInt c)), st, f)))
  | .iadd => pz_g1 n 1 (pz_sii st fun x y r => some ((pc + 1, ls, .int (x + y) :: r, f)))
  | .isub => pz_g1 n 1 (pz_sii st fun x y r => some ((pc + 1, ls, .int (x - y) :: r, f)))
  | .imul => pz_g1 n 1 (pz_sii st fun x y r => some ((pc + 1, ls, .int (x * y) :: r, f)))
  | .irem => pz_g1 n 1 (pz_sii st fun x y r => if y = 0 then none else some ((pc + 1, ls, .int (x - x / y * y) :: r, f)))
  | .iand => pz_g1 n 1 (pz_sii st fun x y r => some ((pc + 1, ls, .int (x &&& y) :: r, f)))
  | .ior => pz_g1 n 1 (pz_sii st fun x y r => some ((pc + 1, ls, .int (x ||| y) :: r, f)))
  | .ixor => pz_g1 n 1 (pz_sii st fun x y r => some ((pc + 1, ls, .int (x ^^^ y) :: r, f)))
  | .ishl => pz_g1 n 1 (pz_sii st fun x y r => some ((pc + 1, ls, .int (x <<< (y &&& 31)) :: r, f)))
  | .ishr => pz_g1 n 1 (pz_sii st fun x y r => some ((pc + 1, ls, .int (x >>> (y &&& 31)) :: r, f)))
  | .ifCond c off => pz_g1 n 3 (pz_si st fun x r => pz_j pc off fun t => pz_br c x 0 (some ((t, ls, r, f))) (some ((pc + 3, ls, r, f))))
  | .if_icmp c off => pz_g1 n 3 (pz_sii st fun x y r => pz_j pc off fun t => pz_br c x y (some ((t, ls, r, f))) (some ((pc + 3, ls, r, f))))
  | .goto off => pz_g1 n 3 (pz_j pc off fun t => some ((t, ls, st, f)))
  | .ifnull off => pz_g1 n 3 (pz_sv st fun v r => pz_j pc off fun t => match v with
    | .null => some ((t, ls, r, f))
    | .ref _ => some ((pc + 3, ls, r, f))
    | _ => none)
  | .ifnonnull off => pz_g1 n 3 (pz_sv st fun v r => pz_j pc off fun t => match v with
    | .null => some ((pc + 3, ls, r, f))
    | .ref _ => some ((t, ls, r, f))
    | _ => none)
  | .tableswitch d lo hi offs => pz_si st fun x r => if x.toInt < lo ∨ hi < x.toInt then pz_j pc d fun t => some ((t, ls, r, f)) else match offs[(x.toInt - lo).toNat]? with
    | some off => pz_j pc off fun t => some ((t, ls, r, f))
    | none => none
  | .lookupswitch d ps => pz_si st fun x r => if (ps.toList.zip (ps.toList.drop 1)).all (fun (a, next) => a.1 < next.1) = true then pz_j pc (Op.lookupswitch.offset ps.toList d x.toInt) fun t => some ((t, ls, r, f)) else none
  | .dup => pz_g1 n 1 (pz_sv st fun v r => if v.category = 1 then some ((pc + 1, ls, v :: v :: r, f)) else none)
  | .dup2 => pz_g1 n 1 (pz_svv st fun v w r => if v.category = 1 ∧ w.category = 1 then some ((pc + 1, ls, v :: w :: v :: w :: r, f)) else none)
  | .dup_x1 => pz_g1 n 1 (pz_svv st fun v w r => if v.category = 1 ∧ w.category = 1 then some ((pc + 1, ls, v :: w :: v :: r, f)) else none)
  | .pop => pz_g1 n 1 (pz_sv st fun v r => if v.category = 1 then some ((pc + 1, ls, r, f)) else none)
  | .getfield idx => pz_g1 n 3 (pz_sr st fun a r => match pz_fld (pz_kc k) idx with
    | some q => (pz_gf f a q.1 q.2).bind fun v => some ((pc + 3, ls, v :: r, f))
    | none => none)
  | .putfield idx => pz_g1 n 3 (pz_svr st fun v a r => match pz_fld (pz_kc k) idx with
    | some q => if pz_wr q.1 q.2 = true ∧ narrow (pz_fty q.1 q.2) v = v ∧ fits (pz_fty q.1 q.2) v = true then (pz_pf f a q.1 q.2 v).bind fun f' => some ((pc + 3, ls, r, f')) else none
    | none => none)
  | .iaload => pz_g1 n 1 (pz_sir st fun i a r => (pz_il (dA 0) f a i).bind fun x => some ((pc + 1, ls, .int x :: r, f)))
  | .iastore => pz_g1 n 1 (pz_siir st fun x i a r => (pz_is (dA 0) f a i x).bind fun f' => some ((pc + 1, ls, r, f')))
  | .baload => pz_g1 n 1 (pz_sir st fun i a r => (pz_il (dA 1) f a i).bind fun x => some ((pc + 1, ls, .int x :: r, f)))
  | .bastore => pz_g1 n 1 (pz_siir st fun x i a r => (pz_is (dA 1) f a i (vp_nar .boolean x)).bind fun f' => some ((pc + 1, ls, r, f')))
  | .aaload => pz_g1 n 1 (pz_sir st fun i a r => (pz_rl dA f a i).bind fun v => some ((pc + 1, ls, v :: r, f)))
  | .aastore => pz_g1 n 1 (pz_srir st fun q i a r => (pz_rs dA f a i q).bind fun f' => some ((pc + 1, ls, r, f')))
  | .invokestatic idx => pz_g1 n 3 (if pz_mx (pz_kc k) idx = true then pz_sii st fun x y r => if r.length ≤ 4 then some ((pc + 3, ls, .int (if x < y then y else x) :: r, f)) else none
    else if pz_mn (pz_kc k) idx = true then pz_sii st fun x y r => if r.length ≤ 4 then some ((pc + 3, ls, .int (if y < x then y else x) :: r, f)) else none
    else none)
  | _ => none
/-- a call of an object's method, of a static one -/
def pz_cv (k n idx : Nat) (st : List Value) (f : pz_F) : Option pz_A := pz_g1 n 3 (match pz_mth (pz_kc k) idx with
  | some k' => pz_sr (st.drop (pz_pt k').length) fun b r => if pz_vi k' = true ∧ r.length ≤ 4 ∧ pz_pk (pz_pt k') (st.take (pz_pt k').length).reverse = true then (pz_gu f b (pz_ko k')).bind fun _ => some (.inr (.inl (k', .ref b :: (st.take (pz_pt k').length).reverse, r))) else none
  | none => none)
def pz_cz (k n idx : Nat) (st : List Value) : Option pz_A := pz_g1 n 3 (match pz_mth (pz_kc k) idx with
  | some k' => if pz_vi k' = false ∧ (st.drop (pz_pt k').length).length ≤ 4 ∧ pz_pk (pz_pt k') (st.take (pz_pt k').length).reverse = true then some (.inr (.inl (k', (st.take (pz_pt k').length).reverse, st.drop (pz_pt k').length))) else none
  | none => none)
/-- the ends -/
def pz_ei (k n : Nat) (st : List Value) : Option pz_A := pz_g1 n 1 (match st with
  | [.int x] => (match pz_ret k with
    | some ty => if narrow ty (.int x) = .int x then some (.inr (.inr (some (.int x)))) else none
    | none => none)
  | _ => none)
def pz_ea (k n : Nat) (st : List Value) : Option pz_A := pz_g1 n 1 (match st with
  | [v] => pz_ra v (match pz_ret k with
    | some (.object _) => some (.inr (.inr (some v)))
    | _ => none)
  | _ => none)
def pz_ev (k n : Nat) (st : List Value) : Option pz_A := pz_g1 n 1 (match st with
  | [] => if pz_ret k = none then some (.inr (.inr none)) else none
  | _ => none)
def pz_st1 (dA : Nat → ClassId) (k pc n : Nat) (ls st : List Value) (f : pz_F) (i : Instr) : Option pz_A := match i with
  | .invokevirtual idx => pz_cv k n idx st f
  | .invokestatic idx => if (pz_mth (pz_kc k) idx).isSome = true then pz_cz k n idx st else (pz_ex dA k pc n ls st f (.invokestatic idx)).map .inl
  | .ireturn => pz_ei k n st
  | .areturn => pz_ea k n st
  | .return_ => pz_ev k n st
  | i => (pz_ex dA k pc n ls st f i).map .inl
def pz_stp (dA : Nat → ClassId) (k pc : Nat) (ls st : List Value) (f : pz_F) : Option pz_A := match decode (pz_b k) pc with
  | .error _ => none
  | .ok q => pz_st1 dA k pc q.2 ls st f q.1
theorem pz_so {dA : Nat → ClassId} {k pc n : Nat} {ls st : List Value} {f : pz_F} {i : Instr} {z : Option pz_A} (hd : decode (pz_b k) pc = .ok (i, n)) (h : pz_st1 dA k pc n ls st f i = z) : pz_stp dA k pc ls st f = z := by
  unfold pz_stp
  rw [hd]
  exact h
theorem pz_stp_ex {dA : Nat → ClassId} {k pc : Nat} {ls st : List Value} {f : pz_F} {z : pz_S} (h : pz_stp dA k pc ls st f = some (.inl z)) : ∃ i n, decode (pz_b k) pc = .ok (i, n) ∧ pz_ex dA k pc n ls st f i = some z := by
  unfold pz_stp at h
  split at h
  · cases h
  · rename_i q hd
    obtain ⟨i, n⟩ := q
    refine ⟨i, n, hd, ?_⟩
    dsimp only at h
    unfold pz_st1 at h
    split at h
    · replace h := pz_g1_inv h; obtain ⟨-, h⟩ := h
      split at h
      · replace h := pz_sr_inv h; obtain ⟨b, r, -, h⟩ := h
        split at h
        · replace h := Option.bind_eq_some_iff.mp h; obtain ⟨v, -, h⟩ := h
          cases h
        · cases h
      · cases h
    · split at h
      · replace h := pz_g1_inv h; obtain ⟨-, h⟩ := h
        split at h
        · split at h
          · cases h
          · cases h
        · cases h
      · replace h := Option.map_eq_some_iff.mp h; obtain ⟨y, h1, h2⟩ := h
        cases h2
        exact h1
    · replace h := pz_g1_inv h; obtain ⟨-, h⟩ := h
      split at h
      · split at h
        · split at h
          · cases h
          · cases h
        · cases h
      · cases h
    · replace h := pz_g1_inv h; obtain ⟨-, h⟩ := h
      split at h
      · replace h := pz_ra_inv h; obtain ⟨-, h⟩ := h
        split at h
        · cases h
        · cases h
      · cases h
    · replace h := pz_g1_inv h; obtain ⟨-, h⟩ := h
      split at h
      · split at h
        · cases h
        · cases h
      · cases h
    · replace h := Option.map_eq_some_iff.mp h; obtain ⟨y, h1, h2⟩ := h
      cases h2
      exact h1
/-- what a call's step says -/
theorem pz_stp_c {dA : Nat → ClassId} {k pc k' : Nat} {ls st as rest : List Value} {f : pz_F} (h : pz_stp dA k pc ls st f = some (.inr (.inl (k', as, rest)))) : ∃ idx, pz_mth (pz_kc k) idx = some k' ∧ rest.length ≤ 4 ∧ ∃ As, pz_pk (pz_pt k') As = true ∧
    ((decode (pz_b k) pc = .ok (.invokevirtual idx, 3) ∧ pz_vi k' = true ∧ ∃ b fs, as = .ref b :: As ∧ st = As.reverse ++ .ref b :: rest ∧ f b = some (.inr (pz_ko k', fs))) ∨
     (decode (pz_b k) pc = .ok (.invokestatic idx, 3) ∧ pz_vi k' = false ∧ as = As ∧ st = As.reverse ++ rest)) := by
  unfold pz_stp at h
  split at h
  · cases h
  · rename_i q hd
    obtain ⟨i, n⟩ := q
    dsimp only at h
    unfold pz_st1 at h
    split at h
    · rename_i idx
      replace h := pz_g1_inv h; obtain ⟨rfl, h⟩ := h
      split at h
      · rename_i k2 hk
        replace h := pz_sr_inv h; obtain ⟨b, r, hst, h⟩ := h
        split at h
        · rename_i hc
          replace h := Option.bind_eq_some_iff.mp h; obtain ⟨v, hv, h⟩ := h
          cases h
          obtain ⟨fs, hfs⟩ := pz_gu_inv hv
          refine ⟨idx, hk, hc.2.1, _, hc.2.2, Or.inl ⟨hd, hc.1, b, fs, rfl, ?_, hfs⟩⟩
          rw [List.reverse_reverse, ← hst, List.take_append_drop]
        · cases h
      · cases h
    · rename_i idx
      split at h
      · replace h := pz_g1_inv h; obtain ⟨rfl, h⟩ := h
        split at h
        · rename_i k2 hk
          split at h
          · rename_i hc
            cases h
            refine ⟨idx, hk, hc.2.1, _, hc.2.2, Or.inr ⟨hd, hc.1, rfl, ?_⟩⟩
            rw [List.reverse_reverse, List.take_append_drop]
          · cases h
        · cases h
      · replace h := Option.map_eq_some_iff.mp h; obtain ⟨y, h1, h2⟩ := h
        cases h2
    · replace h := pz_g1_inv h; obtain ⟨-, h⟩ := h
      split at h
      · split at h
        · split at h
          · cases h
          · cases h
        · cases h
      · cases h
    · replace h := pz_g1_inv h; obtain ⟨-, h⟩ := h
      split at h
      · replace h := pz_ra_inv h; obtain ⟨-, h⟩ := h
        split at h
        · cases h
        · cases h
      · cases h
    · replace h := pz_g1_inv h; obtain ⟨-, h⟩ := h
      split at h
      · split at h
        · cases h
        · cases h
      · cases h
    · replace h := Option.map_eq_some_iff.mp h; obtain ⟨y, h1, h2⟩ := h
      cases h2
/-- what an end's step says -/
theorem pz_stp_r {dA : Nat → ClassId} {k pc : Nat} {ls st : List Value} {f : pz_F} {v : Option Value} (h : pz_stp dA k pc ls st f = some (.inr (.inr v))) :
    (∃ x ty, decode (pz_b k) pc = .ok (.ireturn, 1) ∧ st = [.int x] ∧ v = some (.int x) ∧ pz_ret k = some ty ∧ narrow ty (.int x) = .int x) ∨
    (∃ y n, decode (pz_b k) pc = .ok (.areturn, 1) ∧ st = [y] ∧ v = some y ∧ pz_ret k = some (.object n) ∧ (y = .null ∨ ∃ a, y = .ref a)) ∨
    (decode (pz_b k) pc = .ok (.return_, 1) ∧ st = [] ∧ v = none ∧ pz_ret k = none) := by
  unfold pz_stp at h
  split at h
  · cases h
  · rename_i q hd
    obtain ⟨i, n⟩ := q
    dsimp only at h
    unfold pz_st1 at h
    split at h
    · replace h := pz_g1_inv h; obtain ⟨-, h⟩ := h
      split at h
      · replace h := pz_sr_inv h; obtain ⟨b, r, -, h⟩ := h
        split at h
        · replace h := Option.bind_eq_some_iff.mp h; obtain ⟨v, -, h⟩ := h
          cases h
        · cases h
      · cases h
    · split at h
      · replace h := pz_g1_inv h; obtain ⟨-, h⟩ := h
        split at h
        · split at h
          · cases h
          · cases h
        · cases h
      · replace h := Option.map_eq_some_iff.mp h; obtain ⟨y, h1, h2⟩ := h
        cases h2
    · replace h := pz_g1_inv h; obtain ⟨rfl, h⟩ := h
      split at h
      · rename_i x
        split at h
        · rename_i ty hty
          split at h
          · rename_i hn
            cases h
            exact Or.inl ⟨x, ty, hd, rfl, rfl, hty, hn⟩
          · cases h
        · cases h
      · cases h
    · replace h := pz_g1_inv h; obtain ⟨rfl, h⟩ := h
      split at h
      · rename_i y
        replace h := pz_ra_inv h; obtain ⟨hy, h⟩ := h
        split at h
        · rename_i n hn
          cases h
          exact Or.inr (Or.inl ⟨y, n, hd, rfl, rfl, hn, hy.symm⟩)
        · cases h
      · cases h
    · replace h := pz_g1_inv h; obtain ⟨rfl, h⟩ := h
      split at h
      · split at h
        · rename_i hn
          cases h
          exact Or.inr (Or.inr ⟨hd, rfl, rfl, hn⟩)
        · cases h
      · cases h
    · replace h := Option.map_eq_some_iff.mp h; obtain ⟨y, h1, h2⟩ := h
      cases h2
/-! a run -/
def pz_wp (C : Nat → List Value → pz_F → (Option Value → pz_F → Prop) → Prop) (Q : Option Value → pz_F → Prop) (N : Nat → List Value → List Value → pz_F → Prop) (pc : Nat) (ls : List Value) (f : pz_F) (z : Option pz_A) : Prop := match z with
  | none => False
  | some (.inl c) => N c.1 c.2.1 c.2.2.1 c.2.2.2
  | some (.inr (.inl c)) => C c.1 c.2.1 f (fun r f' => N (pc + 3) ls (r.toList ++ c.2.2) f')
  | some (.inr (.inr v)) => Q v f
def pz_cm (C : Nat → List Value → pz_F → (Option Value → pz_F → Prop) → Prop) : Prop := ∀ (k : Nat) (a : List Value) (f : pz_F) (K K' : Option Value → pz_F → Prop), (∀ r g, K r g → K' r g) → C k a f K → C k a f K'
theorem pz_wp_mono {C : Nat → List Value → pz_F → (Option Value → pz_F → Prop) → Prop} (hC : pz_cm C) {Q Q' : Option Value → pz_F → Prop} (hQ : ∀ v f, Q v f → Q' v f) {N N' : Nat → List Value → List Value → pz_F → Prop} (hN : ∀ pc ls st f, N pc ls st f → N' pc ls st f) {pc : Nat} {ls : List Value} {f : pz_F} {z : Option pz_A} (h : pz_wp C Q N pc ls f z) : pz_wp C Q' N' pc ls f z := by
  match z, h with
  | some (.inl c), h => exact hN _ _ _ _ h
  | some (.inr (.inl c)), h => exact hC _ _ _ _ _ (fun r g hr => hN _ _ _ _ hr) h
  | some (.inr (.inr v)), h => exact hQ _ _ h
def pz_lf (dA : Nat → ClassId) (C : Nat → List Value → pz_F → (Option Value → pz_F → Prop) → Prop) (Q : Option Value → pz_F → Prop) (k pc : Nat) (ls st : List Value) (f : pz_F) : Prop :=
  ∀ N : Nat → List Value → List Value → pz_F → Prop, (∀ pc ls st f, pz_wp C Q N pc ls f (pz_stp dA k pc ls st f) → N pc ls st f) → N pc ls st f
theorem pz_lf_in {dA : Nat → ClassId} {C : Nat → List Value → pz_F → (Option Value → pz_F → Prop) → Prop} (hC : pz_cm C) {Q : Option Value → pz_F → Prop} {k pc : Nat} {ls st : List Value} {f : pz_F} (h : pz_wp C Q (pz_lf dA C Q k) pc ls f (pz_stp dA k pc ls st f)) : pz_lf dA C Q k pc ls st f := by
  intro N hN
  exact hN _ _ _ _ (pz_wp_mono hC (fun _ _ q => q) (fun pc ls st f q => q N hN) h)
theorem pz_lf_iff {dA : Nat → ClassId} {C : Nat → List Value → pz_F → (Option Value → pz_F → Prop) → Prop} (hC : pz_cm C) {Q : Option Value → pz_F → Prop} {k pc : Nat} {ls st : List Value} {f : pz_F} : pz_lf dA C Q k pc ls st f ↔ pz_wp C Q (pz_lf dA C Q k) pc ls f (pz_stp dA k pc ls st f) := by
  constructor
  · intro h
    refine h (fun pc ls st f => pz_wp C Q (pz_lf dA C Q k) pc ls f (pz_stp dA k pc ls st f)) ?_
    intro pc ls st f h2
    exact pz_wp_mono hC (fun _ _ q => q) (fun pc ls st f q => pz_lf_in hC q) h2
  · exact pz_lf_in hC
theorem pz_lf_mono {dA : Nat → ClassId} {C : Nat → List Value → pz_F → (Option Value → pz_F → Prop) → Prop} (hC : pz_cm C) {Q Q' : Option Value → pz_F → Prop} (hQ : ∀ v f, Q v f → Q' v f) {k pc : Nat} {ls st : List Value} {f : pz_F} (h : pz_lf dA C Q k pc ls st f) : pz_lf dA C Q' k pc ls st f := by
  intro N hN
  refine h N (fun pc ls st f q => hN _ _ _ _ (pz_wp_mono hC hQ (fun _ _ _ _ q => q) q))
/-- method k, from place pc with these locals, this stack and these cells, comes to its end with Q; it calls no deeper than d -/
def pz_R (dA : Nat → ClassId) : Nat → Nat → Nat → List Value → List Value → pz_F → (Option Value → pz_F → Prop) → Prop
  | 0 => fun k pc ls st f Q => pz_lf dA (fun _ _ _ _ => False) Q k pc ls st f
  | d + 1 => fun k pc ls st f Q => pz_lf dA (fun k' as f K => pz_R dA d k' 0 (pz_lc k' as) [] f K) Q k pc ls st f
/-- a call -/
def pz_C (dA : Nat → ClassId) (d : Nat) (k : Nat) (as : List Value) (f : pz_F) (Q : Option Value → pz_F → Prop) : Prop := pz_R dA d k 0 (pz_lc k as) [] f Q
def pz_Cd (dA : Nat → ClassId) (d : Nat) : Nat → List Value → pz_F → (Option Value → pz_F → Prop) → Prop := match d with
  | 0 => fun _ _ _ _ => False
  | d + 1 => fun k' as f K => pz_R dA d k' 0 (pz_lc k' as) [] f K
theorem pz_R_eq (dA : Nat → ClassId) (d k pc : Nat) (ls st : List Value) (f : pz_F) (Q : Option Value → pz_F → Prop) : pz_R dA d k pc ls st f Q = pz_lf dA (pz_Cd dA d) Q k pc ls st f := by
  cases d <;> rfl
theorem pz_R_mono {dA : Nat → ClassId} : ∀ (d : Nat) {k pc : Nat} {ls st : List Value} {f : pz_F} {Q Q' : Option Value → pz_F → Prop}, (∀ v f, Q v f → Q' v f) → pz_R dA d k pc ls st f Q → pz_R dA d k pc ls st f Q'
  | 0, k, pc, ls, st, f, Q, Q', hQ, h => pz_lf_mono (C := fun _ _ _ _ => False) (fun _ _ _ _ _ _ q => q) hQ h
  | d + 1, k, pc, ls, st, f, Q, Q', hQ, h => pz_lf_mono (C := fun k' as f K => pz_R dA d k' 0 (pz_lc k' as) [] f K) (fun _ _ _ _ _ hK q => pz_R_mono d hK q) hQ h
theorem pz_Cd_mono {dA : Nat → ClassId} (d : Nat) : pz_cm (pz_Cd dA d) := by
  cases d with
  | zero => exact fun _ _ _ _ _ _ q => q
  | succ d => exact fun _ _ _ _ _ hK q => pz_R_mono d hK q
theorem pz_R_iff {dA : Nat → ClassId} {d k pc : Nat} {ls st : List Value} {f : pz_F} {Q : Option Value → pz_F → Prop} : pz_R dA d k pc ls st f Q ↔ pz_wp (pz_Cd dA d) Q (fun pc ls st f => pz_R dA d k pc ls st f Q) pc ls f (pz_stp dA k pc ls st f) := by
  have e : (fun pc ls st f => pz_R dA d k pc ls st f Q) = pz_lf dA (pz_Cd dA d) Q k := by
    funext pc ls st f
    exact pz_R_eq dA d k pc ls st f Q
  rw [e, pz_R_eq]
  exact pz_lf_iff (pz_Cd_mono d)
/-- what an answer that may be wanting gives -/
def pz_o {α : Type} (z : Option α) (K : α → Prop) : Prop := match z with
  | some v => K v
  | none => False
theorem pz_o_s {α : Type} (v : α) (K : α → Prop) : pz_o (some v) K = K v := rfl
theorem pz_o_n {α : Type} (K : α → Prop) : pz_o none K = False := rfl
section PZR
variable {dA : Nat → ClassId} {d k pc : Nat} {ls st : List Value} {f : pz_F} {Q : Option Value → pz_F → Prop}
theorem pz_go {pc' : Nat} {ls' st' : List Value} {f' : pz_F} (h : pz_stp dA k pc ls st f = some (.inl (pc', ls', st', f'))) : pz_R dA d k pc ls st f Q = pz_R dA d k pc' ls' st' f' Q := by
  apply propext
  rw [pz_R_iff, h]
  exact Iff.rfl
theorem pz_gi {c : Prop} [Decidable c] {p1 p2 : Nat} {ls' st' : List Value} {f' : pz_F} (h : pz_stp dA k pc ls st f = Option.map .inl (if c then some (p1, ls', st', f') else some (p2, ls', st', f'))) : pz_R dA d k pc ls st f Q = if c then pz_R dA d k p1 ls' st' f' Q else pz_R dA d k p2 ls' st' f' Q := by
  by_cases hc : c
  · rw [if_pos hc] at h ⊢
    exact pz_go h
  · rw [if_neg hc] at h ⊢
    exact pz_go h
theorem pz_gb {α : Type} {z : Option α} {pc' : α → Nat} {ls' st' : α → List Value} {f' : α → pz_F} (h : pz_stp dA k pc ls st f = Option.map .inl (z.bind fun v => some (pc' v, ls' v, st' v, f' v))) : pz_R dA d k pc ls st f Q = pz_o z (fun v => pz_R dA d k (pc' v) (ls' v) (st' v) (f' v) Q) := by
  cases z with
  | none =>
    apply propext
    rw [pz_R_iff, h]
    exact Iff.rfl
  | some v => exact pz_go h
theorem pz_gc {z : Option Unit} {k' : Nat} {as rest : List Value} (h : pz_stp dA k pc ls st f = z.bind fun _ => some (.inr (.inl (k', as, rest)))) : pz_R dA (d + 1) k pc ls st f Q = pz_o z (fun _ => pz_C dA d k' as f (fun r f' => pz_R dA (d + 1) k (pc + 3) ls (r.toList ++ rest) f' Q)) := by
  apply propext
  rw [pz_R_iff, h]
  cases z with
  | none => exact Iff.rfl
  | some v => exact Iff.rfl
theorem pz_gs {k' : Nat} {as rest : List Value} (h : pz_stp dA k pc ls st f = some (.inr (.inl (k', as, rest)))) : pz_R dA (d + 1) k pc ls st f Q = pz_C dA d k' as f (fun r f' => pz_R dA (d + 1) k (pc + 3) ls (r.toList ++ rest) f' Q) := by
  apply propext
  rw [pz_R_iff, h]
  exact Iff.rfl
theorem pz_gr {v : Option Value} (h : pz_stp dA k pc ls st f = some (.inr (.inr v))) : pz_R dA d k pc ls st f Q = Q v f := by
  apply propext
  rw [pz_R_iff, h]
  exact Iff.rfl
end PZR
end
section
/-! the pure machine is the machine: locals, cells, one step -/
def pz_lv (ls : List Value) : List (Nat × Value) := (List.range ls.length).filterMap (fun i => match ls[i]? with
  | some v => if v = .retAddr 0 then none else some (i, v)
  | none => none)
theorem pz_lv_mem {ls : List Value} {i : Nat} {v : Value} (h : ls[i]? = some v) (hv : v ≠ .retAddr 0) : (i, v) ∈ pz_lv ls := by
  have hi : i < ls.length := (List.getElem?_eq_some_iff.mp h).1
  refine List.mem_filterMap.mpr ⟨i, List.mem_range.mpr hi, ?_⟩
  rw [h]
  simp [hv]
theorem pz_lv_of {ls : List Value} {q : Nat × Value} (h : q ∈ pz_lv ls) : ls[q.1]? = some q.2 ∧ q.2 ≠ .retAddr 0 := by
  obtain ⟨i, -, h2⟩ := List.mem_filterMap.mp h
  cases hx : ls[i]? with
  | none => rw [hx] at h2; cases h2
  | some v =>
    rw [hx] at h2
    dsimp only at h2
    split at h2
    · cases h2
    · rename_i hv
      cases h2
      exact ⟨hx, hv⟩
def pz_L (n : Nat) (ls : List Value) (lsA : Array Slot) : Prop := lsA.size = n ∧ lv_wf lsA ∧ ls.length = n ∧ ∀ (i : Nat) (v : Value), ls[i]? = some v → v ≠ .retAddr 0 → v.category = 1 ∧ lsA[i]? = some (.val v)
theorem pz_L.has {n : Nat} {ls : List Value} {lsA : Array Slot} (h : pz_L n ls lsA) : lv_has lsA n (pz_lv ls) := ⟨h.1, h.2.1, fun q hq => (h.2.2.2 _ _ (pz_lv_of hq).1 (pz_lv_of hq).2).2⟩
theorem pz_L.set {n i : Nat} {ls : List Value} {lsA lsA' : Array Slot} {v : Value} (h : pz_L n ls lsA) (hv : v.category = 1) (h' : lv_has lsA' n ((i, v) :: (pz_lv ls).filter (fun q => !(q.1 == i) && !(q.1 + 1 == i && q.2.category == 2)))) : pz_L n (ls.set i v) lsA' := by
  refine ⟨h'.1, h'.2.1, by rw [List.length_set]; exact h.2.2.1, fun j w hj hw => ?_⟩
  by_cases e : j = i
  · subst e
    have hl : j < ls.length := by
      have := (List.getElem?_eq_some_iff.mp hj).1
      rwa [List.length_set] at this
    rw [List.getElem?_set_self hl] at hj
    cases hj
    exact ⟨hv, h'.2.2 (j, v) List.mem_cons_self⟩
  · rw [List.getElem?_set_ne (Ne.symm e)] at hj
    obtain ⟨c1, -⟩ := h.2.2.2 j w hj hw
    refine ⟨c1, h'.2.2 (j, w) (List.mem_cons_of_mem _ (List.mem_filter.mpr ⟨pz_lv_mem hj hw, ?_⟩))⟩
    simp [e, c1]
theorem pz_L.int {n i : Nat} {ls : List Value} {lsA : Array Slot} {x : Int32} (h : pz_L n ls lsA) (hi : ls[i]? = some (.int x)) : lsA[i]? = some (.val (.int x)) := (h.2.2.2 _ _ hi (fun q => by cases q)).2
theorem pz_L.ref {n i : Nat} {ls : List Value} {lsA : Array Slot} {x : Nat} (h : pz_L n ls lsA) (hi : ls[i]? = some (.ref x)) : lsA[i]? = some (.val (.ref x)) := (h.2.2.2 _ _ hi (fun q => by cases q)).2
theorem pz_L.nul {n i : Nat} {ls : List Value} {lsA : Array Slot} (h : pz_L n ls lsA) (hi : ls[i]? = some .null) : lsA[i]? = some (.val .null) := (h.2.2.2 _ _ hi (fun q => by cases q)).2
/-- the cells of the world -/
def pz_W (dC : Nat → ClassId) (dI : Nat → Nat → Nat) (L : List Nat) (f : pz_F) (H : Heap) : Prop := ∃ fw : Nat → va_E, (∀ a e, f a = some e → a ∈ L ∧ fw a = e) ∧ va_P (dC, dI) pz_cs (va_pl L fw) H ∧ va_D (fun q => q ∈ L) (va_pl L fw)
theorem pz_W.at {dC : Nat → ClassId} {dI : Nat → Nat → Nat} {L : List Nat} {f : pz_F} {H : Heap} (h : pz_W dC dI L f H) {a : Nat} {e : va_E} (ha : f a = some e) : ∃ (fw : Nat → va_E) (k : Nat), (∀ a e, f a = some e → a ∈ L ∧ fw a = e) ∧ va_P (dC, dI) pz_cs (va_pl L fw) H ∧ va_D (fun q => q ∈ L) (va_pl L fw) ∧ (va_pl L fw)[k]? = some (a, e) ∧ (∀ e', (va_pl L fw).set k (a, e') = va_pl L (va_up fw a e')) := by
  obtain ⟨fw, h1, h2, h3⟩ := h
  obtain ⟨hl, he⟩ := h1 a e ha
  obtain ⟨k, hk⟩ := va_pl_get (X := []) (f := fw) hl
  have hk' : (va_pl L fw)[k]? = some (a, fw a) := hk
  refine ⟨fw, k, h1, h2, h3, by rw [hk', he], fun e' => ?_⟩
  have := va_pl_set (A := fun q => q ∈ L) (X := []) (f := fw) (e := e') (by simpa using h3) hl hk
  simpa using this
theorem pz_W.to {dC : Nat → ClassId} {dI : Nat → Nat → Nat} {L : List Nat} {f : pz_F} {H : Heap} {fw : Nat → va_E} {a : Nat} {e e0 : va_E} (ha : f a = some e0) (h1 : ∀ a e, f a = some e → a ∈ L ∧ fw a = e) (h2 : va_P (dC, dI) pz_cs (va_pl L (va_up fw a e)) H) (h3 : va_D (fun q => q ∈ L) (va_pl L (va_up fw a e))) : pz_W dC dI L (pz_up f a e) H := by
  refine ⟨va_up fw a e, fun b e' hb => ?_, h2, h3⟩
  by_cases hba : b = a
  · subst hba
    rw [pz_up_s] at hb
    cases hb
    exact ⟨(h1 b e0 ha).1, va_up_self _ _ _⟩
  · rw [pz_up_n _ _ hba] at hb
    rw [va_up_ne _ _ hba]
    exact h1 b e' hb
def pz_K (dA dC : Nat → ClassId) (dI : Nat → Nat → Nat) (U : State) : Prop := va_K (dC, dI) pz_cs (pz_ty dA) U ∧ ∀ w ∈ pz_nw, va_Nw w U
section PZS
variable {p : Program} {l : Launch} {e : Env} {R : Room} {s : State} {m : MethodId} {args : Array Value} {below : List Frame} {meth : Method} {c : Code} {H H0 : Heap} {locs : List Loc} {cells slots : Nat} {Q : State → Prop}
variable {dA dC : Nat → ClassId} {dI : Nat → Nat → Nat} {L : List Nat} {k pc : Nat} {lsA : Array Slot} {st : List Value} {f : pz_F}
theorem pz_getW {idx a ci j : Nat} {v : Value} {r : List Value} (hx : p.tables.exec = Jvm.exec) (hb : c.code = pz_b k) (hown : s.vm.findClass (pz_on (pz_kc k)) = some m.cls) (hts : ∀ w ∈ pz_ws, w.before args s = true) (hK : pz_K dA dC dI s) (hW : pz_W dC dI L f H)
    (hd : decode (pz_b k) pc = .ok (.getfield idx, 3)) (hq : pz_fld (pz_kc k) idx = some (ci, j)) (hv : pz_gf f a ci j = some v) (kk : W p l e R s m args below meth c H locs cells slots Q (F0 m (pc + 3) lsA (v :: r))) : W p l e R s m args below meth c H locs cells slots Q (F0 m pc lsA (.ref a :: r)) := by
  obtain ⟨fs, ha, hj⟩ := pz_gf_inv hv
  obtain ⟨fw, k0, -, hP, -, hk0, -⟩ := hW.at ha
  obtain ⟨C, T, N, hc, hjN, hin, hdecl, hlink⟩ := pz_fld_ok hq
  rcases hlink with hlink | ⟨host, hlink⟩
  · exact va_get (ref := C) hx hb hts hin hown hK.1 hP k0 hk0 hc j hjN (hts _ hlink) (fun x h => by rw [← hdecl]; exact h) hj hd kk
  · exact va_getN (ref := C) (host := host) hx hb hts hin hown hK.1 hP k0 hk0 hc j hjN (va_Nw.use rfl (hK.2 _ hlink)) (fun x h => by rw [← hdecl]; exact h) hj hd kk
theorem pz_putW {idx a ci j : Nat} {v : Value} {r : List Value} {f' : pz_F} (hx : p.tables.exec = Jvm.exec) (hb : c.code = pz_b k) (hown : s.vm.findClass (pz_on (pz_kc k)) = some m.cls) (hts : ∀ w ∈ pz_ws, w.before args s = true) (hK : pz_K dA dC dI s) (hW : pz_W dC dI L f H) (hS : va_S (fun q => q ∈ L) H0 H locs)
    (hd : decode (pz_b k) pc = .ok (.putfield idx, 3)) (hq : pz_fld (pz_kc k) idx = some (ci, j)) (hfin : pz_wr ci j = true) (hn : narrow (pz_fty ci j) v = v) (hfit : fits (pz_fty ci j) v = true) (hv : pz_pf f a ci j v = some f') (kk : ∀ (H' : Heap) (locs' : List Loc), pz_W dC dI L f' H' → va_S (fun q => q ∈ L) H0 H' locs' → W p l e R s m args below meth c H' locs' cells slots Q (F0 m (pc + 3) lsA r)) : W p l e R s m args below meth c H locs cells slots Q (F0 m pc lsA (v :: .ref a :: r)) := by
  obtain ⟨fs, ha, hj, rfl⟩ := pz_pf_inv hv
  obtain ⟨fw, k0, hfw, hP, hD, hk0, hset⟩ := hW.at ha
  obtain ⟨C, T, N, hc, hjN, hin, hdecl, hlink⟩ := pz_fld_ok hq
  obtain ⟨hty, hnm, hf1⟩ := pz_cs_ok hc
  have hfin' : (T j).2.2.2 = false := by rw [hf1 j hjN, hfin]; rfl
  rcases hlink with hlink | ⟨host, hlink⟩
  · refine va_put (ref := C) hx hb hts hin (pz_fty ci) hty hnm hown hK.1 hP hD hS k0 hk0 hc j hjN (hts _ hlink) (fun x h => by rw [← hdecl]; exact h) hfin' (hty j hjN) hn hfit hj hd (fun H1 locs1 hP1 hD1 hS1 => ?_)
    rw [hset] at hP1 hD1
    exact kk H1 locs1 (pz_W.to ha hfw hP1 hD1) hS1
  · refine va_putN (ref := C) (host := host) hx hb hts hin (pz_fty ci) hty hnm hown hK.1 hP hD hS k0 hk0 hc j hjN (va_Nw.use rfl (hK.2 _ hlink)) (fun x h => by rw [← hdecl]; exact h) hfin' (hty j hjN) hn hfit hj hd (fun H1 locs1 hP1 hD1 hS1 => ?_)
    rw [hset] at hP1 hD1
    exact kk H1 locs1 (pz_W.to ha hfw hP1 hD1) hS1

theorem pz_cat : ∀ r : List Value, (r.map fun v => v.category).sum ≤ 2 * r.length
  | [] => Nat.le_refl _
  | v :: r => by
    have h := pz_cat r
    rcases lv_cat v with h1 | h1 <;> simp only [List.map_cons, List.sum_cons, List.length_cons, h1] <;> omega
set_option maxHeartbeats 4000000 in
set_option maxRecDepth 100000 in
theorem pz_step {pc' : Nat} {ls ls' st' : List Value} {f' : pz_F} (hx : p.tables.exec = Jvm.exec) (hb : c.code = pz_b k) (hml : c.maxLocals = pz_n k) (hown : s.vm.findClass (pz_on (pz_kc k)) = some m.cls) (hts : ∀ w ∈ pz_ws, w.before args s = true) (hK : pz_K dA dC dI s) (hR : 1 ≤ R.frames ∧ 24 ≤ R.locals ∧ cells ≤ R.cells ∧ slots ≤ R.slots)
    (h : pz_stp dA k pc ls st f = some (.inl (pc', ls', st', f'))) (hL : pz_L (pz_n k) ls lsA) (hW : pz_W dC dI L f H) (hS : va_S (fun q => q ∈ L) H0 H locs)
    (kk : ∀ (H' : Heap) (locs' : List Loc) (lsA' : Array Slot), pz_L (pz_n k) ls' lsA' → pz_W dC dI L f' H' → va_S (fun q => q ∈ L) H0 H' locs' → W p l e R s m args below meth c H' locs' cells slots Q (F0 m pc' lsA' st')) : W p l e R s m args below meth c H locs cells slots Q (F0 m pc lsA st) := by
  replace h := pz_stp_ex h; obtain ⟨i, n, hd, h⟩ := h
  unfold pz_ex at h
  split at h
  · -- iconst
    replace h := pz_g1_inv h; obtain ⟨rfl, h⟩ := h
    cases h
    exact lv_iconst hx hb hd rfl (kk _ _ _ hL hW hS)
  · -- bipush
    replace h := pz_g1_inv h; obtain ⟨rfl, h⟩ := h
    cases h
    exact lv_bipush hx hb hd rfl (kk _ _ _ hL hW hS)
  · -- sipush
    replace h := pz_g1_inv h; obtain ⟨rfl, h⟩ := h
    cases h
    exact lv_sipush hx hb hd rfl (kk _ _ _ hL hW hS)
  · -- aconst_null
    replace h := pz_g1_inv h; obtain ⟨rfl, h⟩ := h
    cases h
    exact lv_null hx hb hd (kk _ _ _ hL hW hS)
  · -- iload_n
    replace h := pz_g1_inv h; obtain ⟨rfl, h⟩ := h
    replace h := pz_li_inv h; obtain ⟨x, hi, h⟩ := h
    cases h
    exact lv_iload_n hx hb hd rfl (hL.int hi) (kk _ _ _ hL hW hS)
  · -- iload
    replace h := pz_g1_inv h; obtain ⟨rfl, h⟩ := h
    replace h := pz_li_inv h; obtain ⟨x, hi, h⟩ := h
    cases h
    exact lv_iload hx hb hd (hL.int hi) (kk _ _ _ hL hW hS)
  · -- aload_n
    replace h := pz_g1_inv h; obtain ⟨rfl, h⟩ := h
    replace h := pz_la_inv h; rcases h with ⟨a, hi, h⟩ | ⟨hi, h⟩
    · cases h
      exact lv_aload_n hx hb hd rfl (hL.ref hi) (kk _ _ _ hL hW hS)
    · cases h
      exact lv_aload_nN hx hb hd rfl (hL.nul hi) (kk _ _ _ hL hW hS)
  · -- aload
    replace h := pz_g1_inv h; obtain ⟨rfl, h⟩ := h
    replace h := pz_la_inv h; rcases h with ⟨a, hi, h⟩ | ⟨hi, h⟩
    · cases h
      exact lv_aload hx hb hd (hL.ref hi) (kk _ _ _ hL hW hS)
    · cases h
      exact lv_aloadN hx hb hd (hL.nul hi) (kk _ _ _ hL hW hS)
  · -- istore_n
    replace h := pz_g1_inv h; obtain ⟨rfl, h⟩ := h
    replace h := pz_si_inv h; obtain ⟨x, r, rfl, h⟩ := h
    split at h
    · rename_i hj
      cases h
      exact lv_istore_n hx hb hd rfl hL.has (by rw [← hL.2.2.1]; exact hj) rfl (fun ls1 h1 => kk _ _ _ (hL.set rfl h1) hW hS)
    · cases h
  · -- istore
    replace h := pz_g1_inv h; obtain ⟨rfl, h⟩ := h
    replace h := pz_si_inv h; obtain ⟨x, r, rfl, h⟩ := h
    split at h
    · rename_i hj
      cases h
      exact lv_istore hx hb hd hL.has (by rw [← hL.2.2.1]; exact hj) rfl (fun ls1 h1 => kk _ _ _ (hL.set rfl h1) hW hS)
    · cases h
  · -- astore_n
    replace h := pz_g1_inv h; obtain ⟨rfl, h⟩ := h
    replace h := pz_sv_inv h; obtain ⟨v, r, rfl, h⟩ := h
    replace h := pz_ra_inv h; obtain ⟨hv, h⟩ := h
    split at h
    · rename_i hj
      cases h
      rcases hv with ⟨a, rfl⟩ | rfl
      · exact lv_astore_n hx hb hd rfl hL.has (by rw [← hL.2.2.1]; exact hj) rfl (fun ls1 h1 => kk _ _ _ (hL.set rfl h1) hW hS)
      · exact lv_astore_nN hx hb hd rfl hL.has (by rw [← hL.2.2.1]; exact hj) rfl (fun ls1 h1 => kk _ _ _ (hL.set rfl h1) hW hS)
    · cases h
  · -- astore
    replace h := pz_g1_inv h; obtain ⟨rfl, h⟩ := h
    replace h := pz_sv_inv h; obtain ⟨v, r, rfl, h⟩ := h
    replace h := pz_ra_inv h; obtain ⟨hv, h⟩ := h
    split at h
    · rename_i hj
      cases h
      rcases hv with ⟨a, rfl⟩ | rfl
      · exact lv_astore hx hb hd hL.has (by rw [← hL.2.2.1]; exact hj) rfl (fun ls1 h1 => kk _ _ _ (hL.set rfl h1) hW hS)
      · exact lv_astoreN hx hb hd hL.has (by rw [← hL.2.2.1]; exact hj) rfl (fun ls1 h1 => kk _ _ _ (hL.set rfl h1) hW hS)
    · cases h
  · -- iinc
    replace h := pz_g1_inv h; obtain ⟨rfl, h⟩ := h
    replace h := pz_li_inv h; obtain ⟨x, hi, h⟩ := h
    cases h
    obtain ⟨k9, hk9⟩ := List.getElem?_of_mem (pz_lv_mem hi (fun q => by cases q))
    exact lv_iinc hx hb hd hL.has hk9 rfl (by rw [← hL.2.2.1]; exact (List.getElem?_eq_some_iff.mp hi).1) rfl (fun ls1 h1 => kk _ _ _ (hL.set rfl h1) hW hS)
  · -- iadd
    replace h := pz_g1_inv h; obtain ⟨rfl, h⟩ := h
    replace h := pz_sii_inv h; obtain ⟨x, y, r, rfl, h⟩ := h
    cases h
    exact lv_iadd hx hb hd (kk _ _ _ hL hW hS)
  · -- isub
    replace h := pz_g1_inv h; obtain ⟨rfl, h⟩ := h
    replace h := pz_sii_inv h; obtain ⟨x, y, r, rfl, h⟩ := h
    cases h
    exact lv_isub hx hb hd (kk _ _ _ hL hW hS)
  · -- imul
    replace h := pz_g1_inv h; obtain ⟨rfl, h⟩ := h
    replace h := pz_sii_inv h; obtain ⟨x, y, r, rfl, h⟩ := h
    cases h
    exact lv_imul hx hb hd (kk _ _ _ hL hW hS)
  · -- irem
    replace h := pz_g1_inv h; obtain ⟨rfl, h⟩ := h
    replace h := pz_sii_inv h; obtain ⟨x, y, r, rfl, h⟩ := h
    split at h
    · cases h
    · rename_i hy
      cases h
      exact lv_irem hx hb hd hy (kk _ _ _ hL hW hS)
  · -- iand
    replace h := pz_g1_inv h; obtain ⟨rfl, h⟩ := h
    replace h := pz_sii_inv h; obtain ⟨x, y, r, rfl, h⟩ := h
    cases h
    exact lv_iand hx hb hd (kk _ _ _ hL hW hS)
  · -- ior
    replace h := pz_g1_inv h; obtain ⟨rfl, h⟩ := h
    replace h := pz_sii_inv h; obtain ⟨x, y, r, rfl, h⟩ := h
    cases h
    exact lv_ior hx hb hd (kk _ _ _ hL hW hS)
  · -- ixor
    replace h := pz_g1_inv h; obtain ⟨rfl, h⟩ := h
    replace h := pz_sii_inv h; obtain ⟨x, y, r, rfl, h⟩ := h
    cases h
    exact lv_ixor hx hb hd (kk _ _ _ hL hW hS)
  · -- ishl
    replace h := pz_g1_inv h; obtain ⟨rfl, h⟩ := h
    replace h := pz_sii_inv h; obtain ⟨x, y, r, rfl, h⟩ := h
    cases h
    exact lv_ishl hx hb hd (kk _ _ _ hL hW hS)
  · -- ishr
    replace h := pz_g1_inv h; obtain ⟨rfl, h⟩ := h
    replace h := pz_sii_inv h; obtain ⟨x, y, r, rfl, h⟩ := h
    cases h
    exact lv_ishr hx hb hd (kk _ _ _ hL hW hS)
  · -- ifCond
    replace h := pz_g1_inv h; obtain ⟨rfl, h⟩ := h
    replace h := pz_si_inv h; obtain ⟨x, r, rfl, h⟩ := h
    replace h := pz_j_inv h; obtain ⟨tgt, ht, h⟩ := h
    unfold pz_br at h
    split at h
    · split at h
      · rename_i hc
        cases h
        exact lv_if_eq hx hb hd ht (fun _ => (kk _ _ _ hL hW hS)) (fun q => absurd hc q)
      · rename_i hc
        cases h
        exact lv_if_eq hx hb hd ht (fun q => absurd q hc) (fun _ => (kk _ _ _ hL hW hS))
    · split at h
      · rename_i hc
        cases h
        exact lv_if_ne hx hb hd ht (fun q => absurd hc q) (fun _ => (kk _ _ _ hL hW hS))
      · rename_i hc
        cases h
        exact lv_if_ne hx hb hd ht (fun _ => (kk _ _ _ hL hW hS)) (fun q => absurd q hc)
    · split at h
      · rename_i hc
        cases h
        exact lv_if_lt hx hb hd ht (fun _ => (kk _ _ _ hL hW hS)) (fun q => absurd hc q)
      · rename_i hc
        cases h
        exact lv_if_lt hx hb hd ht (fun q => absurd q hc) (fun _ => (kk _ _ _ hL hW hS))
    · split at h
      · rename_i hc
        cases h
        exact lv_if_ge hx hb hd ht (fun _ => (kk _ _ _ hL hW hS)) (fun q => absurd hc q)
      · rename_i hc
        cases h
        exact lv_if_ge hx hb hd ht (fun q => absurd q hc) (fun _ => (kk _ _ _ hL hW hS))
    · split at h
      · rename_i hc
        cases h
        exact lv_if_gt hx hb hd ht (fun _ => (kk _ _ _ hL hW hS)) (fun q => absurd hc q)
      · rename_i hc
        cases h
        exact lv_if_gt hx hb hd ht (fun q => absurd q hc) (fun _ => (kk _ _ _ hL hW hS))
    · split at h
      · rename_i hc
        cases h
        exact lv_if_le hx hb hd ht (fun _ => (kk _ _ _ hL hW hS)) (fun q => absurd hc q)
      · rename_i hc
        cases h
        exact lv_if_le hx hb hd ht (fun q => absurd q hc) (fun _ => (kk _ _ _ hL hW hS))
  · -- if_icmp
    replace h := pz_g1_inv h; obtain ⟨rfl, h⟩ := h
    replace h := pz_sii_inv h; obtain ⟨x, y, r, rfl, h⟩ := h
    replace h := pz_j_inv h; obtain ⟨tgt, ht, h⟩ := h
    unfold pz_br at h
    split at h
    · split at h
      · rename_i hc
        cases h
        exact lv_icmp_eq hx hb hd ht (fun _ => (kk _ _ _ hL hW hS)) (fun q => absurd hc q)
      · rename_i hc
        cases h
        exact lv_icmp_eq hx hb hd ht (fun q => absurd q hc) (fun _ => (kk _ _ _ hL hW hS))
    · split at h
      · rename_i hc
        cases h
        exact lv_icmp_ne hx hb hd ht (fun q => absurd hc q) (fun _ => (kk _ _ _ hL hW hS))
      · rename_i hc
        cases h
        exact lv_icmp_ne hx hb hd ht (fun _ => (kk _ _ _ hL hW hS)) (fun q => absurd q hc)
    · split at h
      · rename_i hc
        cases h
        exact lv_icmp_lt hx hb hd ht (fun _ => (kk _ _ _ hL hW hS)) (fun q => absurd hc q)
      · rename_i hc
        cases h
        exact lv_icmp_lt hx hb hd ht (fun q => absurd q hc) (fun _ => (kk _ _ _ hL hW hS))
    · split at h
      · rename_i hc
        cases h
        exact lv_icmp_ge hx hb hd ht (fun _ => (kk _ _ _ hL hW hS)) (fun q => absurd hc q)
      · rename_i hc
        cases h
        exact lv_icmp_ge hx hb hd ht (fun q => absurd q hc) (fun _ => (kk _ _ _ hL hW hS))
    · split at h
      · rename_i hc
        cases h
        exact lv_icmp_gt hx hb hd ht (fun _ => (kk _ _ _ hL hW hS)) (fun q => absurd hc q)
      · rename_i hc
        cases h
        exact lv_icmp_gt hx hb hd ht (fun q => absurd q hc) (fun _ => (kk _ _ _ hL hW hS))
    · split at h
      · rename_i hc
        cases h
        exact lv_icmp_le hx hb hd ht (fun _ => (kk _ _ _ hL hW hS)) (fun q => absurd hc q)
      · rename_i hc
        cases h
        exact lv_icmp_le hx hb hd ht (fun q => absurd q hc) (fun _ => (kk _ _ _ hL hW hS))
  · -- goto
    replace h := pz_g1_inv h; obtain ⟨rfl, h⟩ := h
    replace h := pz_j_inv h; obtain ⟨tgt, ht, h⟩ := h
    cases h
    exact lv_goto hx hb hd ht (kk _ _ _ hL hW hS)
  · -- ifnull
    replace h := pz_g1_inv h; obtain ⟨rfl, h⟩ := h
    replace h := pz_sv_inv h; obtain ⟨v, r, rfl, h⟩ := h
    replace h := pz_j_inv h; obtain ⟨tgt, ht, h⟩ := h
    split at h
    · cases h
      exact lv_ifnullN hx hb hd ht (kk _ _ _ hL hW hS)
    · cases h
      exact lv_ifnull hx hb hd (kk _ _ _ hL hW hS)
    · cases h
  · -- ifnonnull
    replace h := pz_g1_inv h; obtain ⟨rfl, h⟩ := h
    replace h := pz_sv_inv h; obtain ⟨v, r, rfl, h⟩ := h
    replace h := pz_j_inv h; obtain ⟨tgt, ht, h⟩ := h
    split at h
    · cases h
      exact lv_ifnonnullN hx hb hd (kk _ _ _ hL hW hS)
    · cases h
      exact lv_ifnonnull hx hb hd ht (kk _ _ _ hL hW hS)
    · cases h
  · -- tableswitch
    replace h := pz_si_inv h; obtain ⟨x, r, rfl, h⟩ := h
    split at h
    · rename_i hc
      replace h := pz_j_inv h; obtain ⟨tgt, ht, h⟩ := h
      cases h
      exact lv_tableOut hx hb hd hc ht (kk _ _ _ hL hW hS)
    · rename_i hc
      split at h
      · rename_i off ho
        replace h := pz_j_inv h; obtain ⟨tgt, ht, h⟩ := h
        cases h
        exact lv_tableIn hx hb hd (fun q => hc (Or.inl q)) (fun q => hc (Or.inr q)) ho ht (kk _ _ _ hL hW hS)
      · cases h
  · -- lookupswitch
    replace h := pz_si_inv h; obtain ⟨x, r, rfl, h⟩ := h
    split at h
    · rename_i hc
      replace h := pz_j_inv h; obtain ⟨tgt, ht, h⟩ := h
      cases h
      exact lv_lookup hx hb hd hc rfl ht (kk _ _ _ hL hW hS)
    · cases h
  · -- dup
    replace h := pz_g1_inv h; obtain ⟨rfl, h⟩ := h
    replace h := pz_sv_inv h; obtain ⟨v, r, rfl, h⟩ := h
    split at h
    · rename_i hc
      cases h
      exact lv_dup hx hb hd hc (kk _ _ _ hL hW hS)
    · cases h
  · -- dup2
    replace h := pz_g1_inv h; obtain ⟨rfl, h⟩ := h
    replace h := pz_svv_inv h; obtain ⟨v, w, r, rfl, h⟩ := h
    split at h
    · rename_i hc
      cases h
      exact lv_dup2_11 hx hb hd hc.1 hc.2 (kk _ _ _ hL hW hS)
    · cases h
  · -- dup_x1
    replace h := pz_g1_inv h; obtain ⟨rfl, h⟩ := h
    replace h := pz_svv_inv h; obtain ⟨v, w, r, rfl, h⟩ := h
    split at h
    · rename_i hc
      cases h
      exact lv_dup_x1 hx hb hd hc.1 hc.2 (kk _ _ _ hL hW hS)
    · cases h
  · -- pop
    replace h := pz_g1_inv h; obtain ⟨rfl, h⟩ := h
    replace h := pz_sv_inv h; obtain ⟨v, r, rfl, h⟩ := h
    split at h
    · rename_i hc
      cases h
      exact lv_pop hx hb hd hc (kk _ _ _ hL hW hS)
    · cases h
  · -- getfield
    replace h := pz_g1_inv h; obtain ⟨rfl, h⟩ := h
    replace h := pz_sr_inv h; obtain ⟨a, r, rfl, h⟩ := h
    split at h
    · rename_i q hq
      replace h := Option.bind_eq_some_iff.mp h; obtain ⟨v, hv, h⟩ := h
      cases h
      exact pz_getW hx hb hown hts hK hW hd hq hv (kk _ _ _ hL hW hS)
    · cases h
  · -- putfield
    replace h := pz_g1_inv h; obtain ⟨rfl, h⟩ := h
    replace h := pz_svr_inv h; obtain ⟨v, a, r, rfl, h⟩ := h
    split at h
    · rename_i q hq
      split at h
      · rename_i hc
        replace h := Option.bind_eq_some_iff.mp h; obtain ⟨v, hv, h⟩ := h
        cases h
        exact pz_putW hx hb hown hts hK hW hS hd hq hc.1 hc.2.1 hc.2.2 hv (fun H1 locs1 hW1 hS1 => kk _ _ _ hL hW1 hS1)
      · cases h
    · cases h
  · -- iaload
    replace h := pz_g1_inv h; obtain ⟨rfl, h⟩ := h
    replace h := pz_sir_inv h; obtain ⟨i, a, r, rfl, h⟩ := h
    replace h := Option.bind_eq_some_iff.mp h; obtain ⟨v, hv, h⟩ := h
    cases h
    obtain ⟨n0, g, ha, hin, rfl⟩ := pz_il_inv hv
    obtain ⟨fw, k0, -, hP, -, hk0, -⟩ := hW.at ha
    exact va_iald hx hb hK.1 hP k0 0 hk0 rfl hin hd (kk _ _ _ hL hW hS)
  · -- iastore
    replace h := pz_g1_inv h; obtain ⟨rfl, h⟩ := h
    replace h := pz_siir_inv h; obtain ⟨x, i, a, r, rfl, h⟩ := h
    replace h := Option.bind_eq_some_iff.mp h; obtain ⟨v, hv, h⟩ := h
    cases h
    obtain ⟨n0, g, ha, hin, rfl⟩ := pz_is_inv hv
    obtain ⟨fw, k0, hfw, hP, hD, hk0, hset⟩ := hW.at ha
    refine va_iast hx hb hK.1 hP hD hS k0 0 hk0 rfl hin hd (fun H1 locs1 hP1 hD1 hS1 => ?_)
    rw [hset] at hP1 hD1
    exact kk _ _ _ hL (pz_W.to ha hfw hP1 hD1) hS1
  · -- baload
    replace h := pz_g1_inv h; obtain ⟨rfl, h⟩ := h
    replace h := pz_sir_inv h; obtain ⟨i, a, r, rfl, h⟩ := h
    replace h := Option.bind_eq_some_iff.mp h; obtain ⟨v, hv, h⟩ := h
    cases h
    obtain ⟨n0, g, ha, hin, rfl⟩ := pz_il_inv hv
    obtain ⟨fw, k0, -, hP, -, hk0, -⟩ := hW.at ha
    exact va_zald hx hb hK.1 hP k0 1 hk0 rfl hin hd (kk _ _ _ hL hW hS)
  · -- bastore
    replace h := pz_g1_inv h; obtain ⟨rfl, h⟩ := h
    replace h := pz_siir_inv h; obtain ⟨x, i, a, r, rfl, h⟩ := h
    replace h := Option.bind_eq_some_iff.mp h; obtain ⟨v, hv, h⟩ := h
    cases h
    obtain ⟨n0, g, ha, hin, rfl⟩ := pz_is_inv hv
    obtain ⟨fw, k0, hfw, hP, hD, hk0, hset⟩ := hW.at ha
    refine va_zast hx hb hK.1 hP hD hS k0 1 hk0 rfl hin hd (fun H1 locs1 hP1 hD1 hS1 => ?_)
    rw [hset] at hP1 hD1
    exact kk _ _ _ hL (pz_W.to ha hfw hP1 hD1) hS1
  · -- aaload
    replace h := pz_g1_inv h; obtain ⟨rfl, h⟩ := h
    replace h := pz_sir_inv h; obtain ⟨i, a, r, rfl, h⟩ := h
    replace h := Option.bind_eq_some_iff.mp h; obtain ⟨v, hv, h⟩ := h
    cases h
    obtain ⟨t, n0, g, ht, ha, hin, rfl⟩ := pz_rl_inv hv
    obtain ⟨fw, k0, -, hP, -, hk0, -⟩ := hW.at ha
    obtain ⟨C, hC⟩ := pz_ty_r (dA := dA) ht
    exact va_aldq hx hb hK.1 hP k0 t hk0 hC hin hd (kk _ _ _ hL hW hS)
  · -- aastore
    replace h := pz_g1_inv h; obtain ⟨rfl, h⟩ := h
    replace h := pz_srir_inv h; obtain ⟨q, i, a, r, rfl, h⟩ := h
    replace h := Option.bind_eq_some_iff.mp h; obtain ⟨v, hv, h⟩ := h
    cases h
    obtain ⟨n0, g, ci, fs, hct, ha, hq, hin, rfl⟩ := pz_rs_inv hv
    obtain ⟨fw, k0, hfw, hP, hD, hk0, hset⟩ := hW.at ha
    obtain ⟨hql, hqe⟩ := hfw q _ hq
    obtain ⟨k1, hk1⟩ := va_pl_get (X := []) (f := fw) hql
    have hk1 : (va_pl L fw)[k1]? = some (q, .inr (ci, fs)) := by rw [← hqe]; exact hk1
    obtain ⟨r0, hr0, -⟩ := hP k1 _ hk1
    refine va_astq hx hb hK.1 hP hD hS k0 (pz_ct ci) k1 ci hk0 (pz_ty_s hct hr0) hk1 hr0 hin hd (fun H1 locs1 hP1 hD1 hS1 => ?_)
    rw [hset] at hP1 hD1
    exact kk _ _ _ hL (pz_W.to ha hfw hP1 hD1) hS1
  · -- invokestatic
    replace h := pz_g1_inv h; obtain ⟨rfl, h⟩ := h
    split at h
    · rename_i hc
      replace h := pz_sii_inv h; obtain ⟨x, y, r, rfl, h⟩ := h
      split at h
      · rename_i hr
        cases h
        obtain ⟨w1, w2, w3, w4⟩ := pz_mx_ok hc
        exact va_mmax hx hb (by rw [hml]; exact hL.1.symm) hown (hts _ w1) (hts _ w2) (hts _ w3) (hts _ w4) hR.1 (by have := pz_cat r; omega) hR.2.2.1 hR.2.2.2 hd (kk _ _ _ hL hW hS)
      · cases h
    · split at h
      · rename_i hc
        replace h := pz_sii_inv h; obtain ⟨x, y, r, rfl, h⟩ := h
        split at h
        · rename_i hr
          cases h
          obtain ⟨w1, w2, w3, w4⟩ := pz_mn_ok hc
          exact va_mmin hx hb (by rw [hml]; exact hL.1.symm) hown (hts _ w1) (hts _ w2) (hts _ w3) (hts _ w4) hR.1 (by have := pz_cat r; omega) hR.2.2.1 hR.2.2.2 hd (kk _ _ _ hL hW hS)
        · cases h
      · cases h
  · -- default
    cases h
end PZS
end
section
/-! the pure machine is the machine: calls, ends, whole methods -/
def pz_rm (d : Nat) : Room := { frames := d + 1, cells := 0, slots := 0, locals := 32 * (d + 1) }
def pz_wk (k : Nat) : List Jvm.Cond := .code (pz_y k) (pz_b k) (pz_n k) (pz_ret k) :: pz_ws
def pz_Pc (dA dC : Nat → ClassId) (dI : Nat → Nat → Nat) (L : List Nat) (as : List Value) (f : pz_F) : Array Value → State → Prop := va_Pc as (fun U => pz_W dC dI L f U.heap ∧ pz_K dA dC dI U)
def pz_Qc (dC : Nat → ClassId) (dI : Nat → Nat → Nat) (L : List Nat) (Q : Option Value → pz_F → Prop) : Array Value → State → Outcome → State → Prop := fun _ st oc t => (∃ r f', oc = .returned r ∧ Q r f' ∧ pz_W dC dI L f' t.heap) ∧ va_F (fun q => q ∈ L) st t
theorem pz_good (k : Nat) (hk : Jvm.Cond.code (pz_y k) (pz_b k) (pz_n k) (pz_ret k) ∈ pz_ws) : GoodIn pz_ws (pz_wk k) := by
  intro w hw
  have h : w ∈ pz_ws := by
    rcases List.mem_cons.mp hw with rfl | h
    · exact hk
    · exact h
  exact ⟨h, pz_ws_good w h⟩
theorem pz_K.warm {dA dC : Nat → ClassId} {dI : Nat → Nat → Nat} {s U : State} (hW : s.WarmedH U.vm) (h : pz_K dA dC dI s) : pz_K dA dC dI U := ⟨va_K.moved hW.alike h.1, fun w hw => pz_nw_warm hW w hw (h.2 w hw)⟩
theorem pz_K.same {dA dC : Nat → ClassId} {dI : Nat → Nat → Nat} {s U : State} (hv : s.vm = U.vm) (h : pz_K dA dC dI s) : pz_K dA dC dI U := ⟨va_K.moved (by rw [hv]; exact Vm.Alike.refl U.vm) h.1, fun w hw => (h.2 w hw).same (pz_nw_tab w hw) hv⟩
theorem pz_blind {dA dC : Nat → ClassId} {dI : Nat → Nat → Nat} {L : List Nat} {as : List Value} {f : pz_F} : FrameBlind (pz_Pc dA dC dI L as f) := by
  intro a U g mk q
  obtain ⟨q0, q1, q2⟩ := q
  exact ⟨q0, q1, pz_K.same (s := U) (U := U.calling g mk a) rfl q2⟩
theorem pz_lc_L {k : Nat} {as : List Value} (hp : as.all (fun v => v.category == 1 && v != .retAddr 0) = true) (hn : as.length ≤ pz_n k) : (lg_sl as).length ≤ pz_n k ∧ pz_L (pz_n k) (pz_lc k as) ((lg_sl as ++ List.replicate (pz_n k - (lg_sl as).length) Slot.unset).toArray) := by
  have h1 : ∀ (as : List Value), as.all (fun v => v.category == 1 && v != .retAddr 0) = true → (lg_sl as).length = as.length := by
    intro as
    induction as with
    | nil => intro _; rfl
    | cons v as ih =>
      intro h
      simp only [List.all_cons, Bool.and_eq_true, beq_iff_eq, bne_iff_ne, ne_eq] at h
      have h2 := ih h.2
      simp only [lg_sl, List.flatMap_cons, List.length_append, List.length_cons] at h2 ⊢
      rw [if_neg (by omega), h2]
      simp
      omega
  have h2 : ∀ (as : List Value) (j : Nat), as.all (fun v => v.category == 1 && v != .retAddr 0) = true → ∀ i v, as[i]? = some v → (j + i, v) ∈ lv_args j as := by
    intro as
    induction as with
    | nil => intro j _ i v h; simp at h
    | cons w as ih =>
      intro j h i v hi
      simp only [List.all_cons, Bool.and_eq_true, beq_iff_eq, bne_iff_ne, ne_eq] at h
      cases i with
      | zero =>
        simp only [List.getElem?_cons_zero, Option.some.injEq] at hi
        subst hi
        exact List.mem_cons_self
      | succ i =>
        rw [List.getElem?_cons_succ] at hi
        have h3 := ih (j + 1) h.2 i v hi
        simp only [lv_args]
        rw [if_neg (by omega)]
        refine List.mem_cons_of_mem _ ?_
        have e : j + (i + 1) = j + 1 + i := by omega
        rw [e]
        exact h3
  have hl : (lg_sl as).length ≤ pz_n k := by rw [h1 as hp]; exact hn
  have hh := lv_entry as hl
  refine ⟨hl, hh.1, hh.2.1, by simp [pz_lc]; omega, fun i v hi hv => ?_⟩
  unfold pz_lc at hi
  by_cases hia : i < as.length
  · rw [List.getElem?_append_left hia] at hi
    have h4 := h2 as 0 hp i v hi
    rw [Nat.zero_add] at h4
    have h5 := List.all_eq_true.mp hp v (List.mem_of_getElem? hi)
    simp only [Bool.and_eq_true, beq_iff_eq, bne_iff_ne, ne_eq] at h5
    exact ⟨h5.1, hh.2.2 _ h4⟩
  · rw [List.getElem?_append_right (by omega)] at hi
    exact absurd (List.eq_of_mem_replicate (List.mem_of_getElem? hi)) hv
theorem pz_pk_all : ∀ (bs : List Bool) (as : List Value), pz_pk bs as = true → as.length = bs.length ∧ as.all (fun v => v.category == 1 && v != .retAddr 0) = true
  | [], [], _ => ⟨rfl, rfl⟩
  | true :: bs, .int x :: vs, h => by
    obtain ⟨h1, h2⟩ := pz_pk_all bs vs h
    exact ⟨by simp [h1], by simp [List.all_cons, Value.category] at h2 ⊢; exact h2⟩
  | false :: bs, .ref x :: vs, h => by
    obtain ⟨h1, h2⟩ := pz_pk_all bs vs h
    exact ⟨by simp [h1], by simp [List.all_cons, Value.category] at h2 ⊢; exact h2⟩
section PZC
variable {p : Program} {l : Launch} {e : Env} {R : Room} {s : State} {m : MethodId} {args : Array Value} {below : List Frame} {meth : Method} {c : Code} {H H0 : Heap} {locs : List Loc} {cells slots : Nat} {Q : State → Prop}
variable {dA dC : Nat → ClassId} {dI : Nat → Nat → Nat} {L : List Nat}
/-- behind a call -/
theorem pz_behind {pc : Nat} {ls : Array Slot} {st0 rest : List Value} {a : Array Value} {Q1 : Option Value → pz_F → Prop} (hr : va_Run p l e R s m args below meth c H locs cells slots 0 0 (F0 m pc ls st0) rest (pz_Qc dC dI L Q1 a) (fun q => q ∈ L)) (hS : va_S (fun q => q ∈ L) H0 H locs)
    (kk : ∀ (r : Option Value) (f' : pz_F) (H1 : Heap) (locs1 : List Loc), Q1 r f' → pz_W dC dI L f' H1 → va_S (fun q => q ∈ L) H0 H1 locs1 → W p l e R s m args below meth c H1 locs1 cells slots Q (F0 m (pc + 3) ls (r.toList ++ rest))) : W p l e R s m args below meth c H locs cells slots Q (F0 m pc ls st0) := by
  intro T hT X
  obtain ⟨v, st₀, t, T', Ls, h0, X', hL, e1, e2, ⟨⟨r, f', hv, hq, hw⟩, hz, hk⟩, st⟩ := hr T hT X
  cases hv
  rw [h0] at hz hk
  obtain ⟨t2, a1, b1⟩ := kk v f' T'.heap (locs ++ Ls) hq (by rw [e1]; exact hw)
    ⟨Nat.le_trans hS.1 (by rw [e1]; exact hz), fun q h1 h2 => by rw [e1, hk q (Nat.lt_of_lt_of_le h1 hS.1) h2]; exact hS.2.1 q h1 h2, fun q hq => by
      rcases List.mem_append.mp hq with h | h
      · exact hS.2.2 q h
      · exact hL q h⟩ T' rfl X'
  exact ⟨t2, st t2 a1, b1⟩
end PZC
/-- what soundness to depth d says -/
def pz_Snd (dA dC : Nat → ClassId) (dI : Nat → Nat → Nat) (L : List Nat) (l : Launch) (d : Nat) : Prop := ∀ (k pc : Nat) (ls st : List Value) (f : pz_F) (Qp : Option Value → pz_F → Prop), pz_R dA d k pc ls st f Qp → ∀ (p : Program) (e : Env) (R : Room) (s : State) (m : MethodId) (args : Array Value) (below : List Frame) (meth : Method) (c : Code) (H : Heap) (locs : List Loc) (lsA : Array Slot),
  p.tables.exec = Jvm.exec → c.code = pz_b k → c.maxLocals = pz_n k → s.vm.findClass (pz_on (pz_kc k)) = some m.cls → (∀ w ∈ pz_ws, w.before args s = true) → pz_K dA dC dI s → (d + 1 ≤ R.frames ∧ 32 * (d + 1) ≤ R.locals) → meth.sig.returnType = pz_ret k → meth.locks = false →
  pz_L (pz_n k) ls lsA → pz_W dC dI L f H → va_S (fun q => q ∈ L) s.heap H locs → W p l e R s m args below meth c H locs 0 0 (MQ below (pz_Qc dC dI L Qp) args s 0 0 (fun q => q ∈ L)) (F0 m pc lsA st)
theorem pz_metOf {dA dC : Nat → ClassId} {dI : Nat → Nat → Nat} {L : List Nat} {l : Launch} {d k : Nat} (hs : pz_Snd dA dC dI L l d) (hk : pz_kok k) {as : List Value} {f : pz_F} {Q : Option Value → pz_F → Prop} (hp : as.all (fun v => v.category == 1 && v != .retAddr 0) = true) (hn : as.length ≤ pz_n k) (h : pz_C dA d k as f Q) : Met l (pz_y k) (pz_wk k) (pz_rm d) (pz_Pc dA dC dI L as f) (pz_Qc dC dI L Q) 0 0 (fun q => q ∈ L) := by
  refine Met.ofW (cc := pz_b k) (maxL := pz_n k) (ret := pz_ret k) hk.1 rfl ?_
  intro p e s m args below meth c s₁ B hml hv
  obtain ⟨rfl, hW, hK⟩ := hv
  have hts := atoms_spec (ws := pz_wk k) B.pre
  have hown : s.vm.findClass (pz_y k).cls = some m.cls := findClass_of_methodNamed B.named
  rw [hk.2.1] at hown
  rw [lg_entry_eq]
  obtain ⟨h1, h2⟩ := pz_lc_L hp hn
  exact hs k 0 _ _ f Q h p e _ s m _ below meth c s.heap [] _ B.exec B.bytes hml hown (fun w hw => hts w (List.mem_cons_of_mem _ hw)) hK ⟨Nat.le_refl _, Nat.le_refl _⟩ B.returns B.notSynchronized h2 hW va_S.rf
section PZD
variable {p : Program} {l : Launch} {e : Env} {R : Room} {s : State} {m : MethodId} {args : Array Value} {below : List Frame} {meth : Method} {c : Code} {H H0 : Heap} {locs : List Loc} {Q : State → Prop}
variable {dA dC : Nat → ClassId} {dI : Nat → Nat → Nat} {L : List Nat} {k pc : Nat} {lsA : Array Slot} {ls st : List Value} {f : pz_F}
set_option maxHeartbeats 4000000 in
theorem pz_callW {d k' : Nat} {as rest : List Value} {Q1 : Option Value → pz_F → Prop} (hx : p.tables.exec = Jvm.exec) (hb : c.code = pz_b k) (hml : c.maxLocals = pz_n k) (hown : s.vm.findClass (pz_on (pz_kc k)) = some m.cls) (hts : ∀ w ∈ pz_ws, w.before args s = true) (hK : pz_K dA dC dI s) (hR : d + 2 ≤ R.frames ∧ 32 * (d + 2) ≤ R.locals)
    (hz : pz_stp dA k pc ls st f = some (.inr (.inl (k', as, rest)))) (hsn : pz_Snd dA dC dI L l d) (hC : pz_C dA d k' as f Q1) (hL : pz_L (pz_n k) ls lsA) (hW : pz_W dC dI L f H) (hS : va_S (fun q => q ∈ L) H0 H locs)
    (kk : ∀ (r : Option Value) (f' : pz_F) (H1 : Heap) (locs1 : List Loc), Q1 r f' → pz_W dC dI L f' H1 → va_S (fun q => q ∈ L) H0 H1 locs1 → W p l e R s m args below meth c H1 locs1 0 0 Q (F0 m (pc + 3) lsA (r.toList ++ rest))) : W p l e R s m args below meth c H locs 0 0 Q (F0 m pc lsA st) := by
  obtain ⟨idx, hm, hlen, As, hpk, hcase⟩ := pz_stp_c hz
  obtain ⟨hlink, hkok⟩ := pz_mth_ok hm
  obtain ⟨hpl, hcn, hnh, hpd, hn13, hcode, hini, hvir, hsta⟩ := hkok
  obtain ⟨hal, hall⟩ := pz_pk_all _ _ hpk
  have hroom : (rest.map fun v => v.category).sum ≤ 8 := by have := pz_cat rest; omega
  have hF : (pz_rm d).frames + 1 ≤ R.frames ∧ 8 + (pz_n k' + 11) + (pz_rm d).locals ≤ R.locals := by
    refine ⟨hR.1, ?_⟩
    show 8 + (pz_n k' + 11) + 32 * (d + 1) ≤ R.locals
    omega
  have hpar : ∀ sig, parseMethodDescriptor (pz_y k').desc = some sig → As.length = sig.parameters.length := by
    intro sig hsig
    rw [hsig] at hpd
    rw [hal]
    exact (Option.some.inj hpd).symm
  have hpay := pay_in hts (pz_good k' hcode)
  have hcm : Jvm.Cond.code (pz_y k') (pz_b k') (pz_n k') (pz_ret k') ∈ pz_wk k' := List.mem_cons_self
  rcases hcase with ⟨hd, hvi, b, fs, rfl, rfl, hbf⟩ | ⟨hd, hvi, rfl, rfl⟩
  · obtain ⟨hinst, hsel, T, N, hcls, hnk⟩ := hvir hvi
    have hobj : ∃ cellB : Cell, H[b]? = some cellB ∧ cellB.vm.isStatics = false ∧ s.vm.findClass (pz_y k').cls = some cellB.cls := by
      obtain ⟨fw, k0, -, hP, -, hk0, -⟩ := hW.at hbf
      exact va_recv hK.1 hP hcls hk0
    have hM := pz_metOf hsn ⟨hpl, hcn, hnh, hpd, hn13, hcode, hini, hvir, hsta⟩ (as := .ref b :: As) (by simp only [List.all_cons, Bool.and_eq_true]; exact ⟨⟨rfl, rfl⟩, hall⟩) (by simp only [List.length_cons]; omega) hC
    have hpre : PreV s H (pz_y k').cls b (pz_Pc dA dC dI L (.ref b :: As) f) As := ⟨pz_blind, hobj, fun U hU hWm => ⟨rfl, by rw [hU]; exact hW, hK.warm hWm⟩⟩
    rcases hlink with hlink | ⟨host, hlink⟩
    · exact pz_behind (va_runV (cc := pz_b k) (nL := pz_n k) (n := As.length) (Ts := pz_ws) ⟨hx, hb, hml, hown, hts⟩ hM ⟨⟨rfl, rfl, hF.1, hF.2, hpay, hcm, hts _ hcode, hts _ hini, hnh, hpar, hts _ hlink⟩, hts _ hinst, hts _ hsel⟩ hpre rfl rfl hL.1 rfl (lv_room hroom) hd ⟨Nat.zero_le _, Nat.zero_le _⟩) hS kk
    · exact pz_behind (va_runVN (cc := pz_b k) (nL := pz_n k) (n := As.length) (Ts := pz_ws) (host := host) ⟨hx, hb, hml, hown, hts⟩ hM ⟨⟨⟨rfl, rfl, hF.1, hF.2, hpay, hcm⟩, hts _ hcode, hts _ hini, hnh, hpar, va_Nw.use rfl (hK.2 _ hlink)⟩, hts _ hinst, hts _ hsel⟩ hpre rfl rfl hL.1 rfl (lv_room hroom) hd ⟨Nat.zero_le _, Nat.zero_le _⟩) hS kk
  · obtain ⟨hstat, hnk⟩ := hsta hvi
    have hM := pz_metOf hsn ⟨hpl, hcn, hnh, hpd, hn13, hcode, hini, hvir, hsta⟩ hall (by omega) hC
    have hpre : PreS s H (pz_Pc dA dC dI L as f) as := ⟨pz_blind, fun U hU hWm => ⟨rfl, by rw [hU]; exact hW, hK.warm hWm⟩⟩
    rcases hlink with hlink | ⟨host, hlink⟩
    · exact pz_behind (va_runS (cc := pz_b k) (nL := pz_n k) (n := as.length) (Ts := pz_ws) ⟨hx, hb, hml, hown, hts⟩ hM ⟨⟨rfl, rfl, hF.1, hF.2, hpay, hcm, hts _ hcode, hts _ hini, hnh, hpar, hts _ hlink⟩, hts _ hstat⟩ hpre rfl rfl hL.1 rfl (lv_room hroom) hd ⟨Nat.zero_le _, Nat.zero_le _⟩) hS kk
    · exact pz_behind (va_runSN (cc := pz_b k) (nL := pz_n k) (n := as.length) (Ts := pz_ws) (host := host) ⟨hx, hb, hml, hown, hts⟩ hM ⟨⟨⟨rfl, rfl, hF.1, hF.2, hpay, hcm⟩, hts _ hcode, hts _ hini, hnh, hpar, va_Nw.use rfl (hK.2 _ hlink)⟩, hts _ hstat, trivial⟩ hpre rfl rfl hL.1 rfl (lv_room hroom) hd ⟨Nat.zero_le _, Nat.zero_le _⟩) hS kk
theorem pz_retW {Qp : Option Value → pz_F → Prop} {v : Option Value} (hx : p.tables.exec = Jvm.exec) (hb : c.code = pz_b k) (hr : meth.sig.returnType = pz_ret k) (hlk : meth.locks = false)
    (hz : pz_stp dA k pc ls st f = some (.inr (.inr v))) (hq : Qp v f) (hW : pz_W dC dI L f H) (hS : va_S (fun q => q ∈ L) s.heap H locs) : W p l e R s m args below meth c H locs 0 0 (MQ below (pz_Qc dC dI L Qp) args s 0 0 (fun q => q ∈ L)) (F0 m pc lsA st) := by
  rcases pz_stp_r hz with ⟨x, ty, hd, rfl, rfl, hty, hn⟩ | ⟨y, n, hd, rfl, rfl, hty, hy⟩ | ⟨hd, rfl, rfl, hty⟩
  · exact W.zret hx hb (hr.trans hty) hn (fun t ht hWm => ⟨⟨_, f, rfl, hq, by rw [ht]; exact hW⟩, hS.F ht⟩) hS.2.2 hd hlk
  · exact W.aret hx hb (hr.trans hty) (Or.inl ⟨n, rfl⟩) hy (fun t ht hWm => ⟨⟨_, f, rfl, hq, by rw [ht]; exact hW⟩, hS.F ht⟩) hS.2.2 hd hlk
  · exact W.vret hx hb (hr.trans hty) (fun t ht hWm => ⟨⟨_, f, rfl, hq, by rw [ht]; exact hW⟩, hS.F ht⟩) hS.2.2 hd hlk
end PZD
theorem pz_snd (dA dC : Nat → ClassId) (dI : Nat → Nat → Nat) (L : List Nat) (l : Launch) : ∀ d, pz_Snd dA dC dI L l d := by
  intro d
  induction d with
  | zero =>
    intro k pc ls st f Qp h p e R s m args below meth c H locs lsA hx hb hml hown hts hK hR hr hlk hL hW hS
    have h : pz_lf dA (pz_Cd dA 0) Qp k pc ls st f := h
    refine h (fun pc ls st f => ∀ (H : Heap) (locs : List Loc) (lsA : Array Slot), pz_L (pz_n k) ls lsA → pz_W dC dI L f H → va_S (fun q => q ∈ L) s.heap H locs → W p l e R s m args below meth c H locs 0 0 (MQ below (pz_Qc dC dI L Qp) args s 0 0 (fun q => q ∈ L)) (F0 m pc lsA st)) ?_ H locs lsA hL hW hS
    intro pc ls st f hw H locs lsA hL hW hS
    generalize hz : pz_stp dA k pc ls st f = z at hw
    match z, hz, hw with
    | some (.inl (pc', ls', st', f')), hz, hw => exact pz_step hx hb hml hown hts hK ⟨by omega, by omega, Nat.zero_le _, Nat.zero_le _⟩ hz hL hW hS hw
    | some (.inr (.inl c)), hz, hw => exact hw.elim
    | some (.inr (.inr v)), hz, hw => exact pz_retW hx hb hr hlk hz hw hW hS
  | succ d ih =>
    intro k pc ls st f Qp h p e R s m args below meth c H locs lsA hx hb hml hown hts hK hR hr hlk hL hW hS
    have h : pz_lf dA (pz_Cd dA (d + 1)) Qp k pc ls st f := h
    refine h (fun pc ls st f => ∀ (H : Heap) (locs : List Loc) (lsA : Array Slot), pz_L (pz_n k) ls lsA → pz_W dC dI L f H → va_S (fun q => q ∈ L) s.heap H locs → W p l e R s m args below meth c H locs 0 0 (MQ below (pz_Qc dC dI L Qp) args s 0 0 (fun q => q ∈ L)) (F0 m pc lsA st)) ?_ H locs lsA hL hW hS
    intro pc ls st f hw H locs lsA hL hW hS
    generalize hz : pz_stp dA k pc ls st f = z at hw
    match z, hz, hw with
    | some (.inl (pc', ls', st', f')), hz, hw => exact pz_step hx hb hml hown hts hK ⟨by omega, by omega, Nat.zero_le _, Nat.zero_le _⟩ hz hL hW hS hw
    | some (.inr (.inl (k', as, rest))), hz, hw => exact pz_callW hx hb hml hown hts hK hR hz ih hw hL hW hS (fun r f' H1 locs1 h1 h2 h3 => h1 H1 locs1 lsA hL h2 h3)
    | some (.inr (.inr v)), hz, hw => exact pz_retW hx hb hr hlk hz hw hW hS
/-- a method's contract out of its pure run -/
theorem pz_met {dA dC : Nat → ClassId} {dI : Nat → Nat → Nat} {L : List Nat} {l : Launch} {d k : Nat} (hk : pz_kok k) {as : List Value} {f : pz_F} {Q : Option Value → pz_F → Prop} (hp : as.all (fun v => v.category == 1 && v != .retAddr 0) = true) (hn : as.length ≤ pz_n k) (h : pz_C dA d k as f Q) : Met l (pz_y k) (pz_wk k) (pz_rm d) (pz_Pc dA dC dI L as f) (pz_Qc dC dI L Q) 0 0 (fun q => q ∈ L) := pz_metOf (pz_snd dA dC dI L l d) hk hp hn h
end
section
/-! laws of single instructions with side conditions -/
section PZH
variable {dA : Nat → ClassId} {d k pc : Nat} {ls st : List Value} {f : pz_F} {Q : Option Value → pz_F → Prop}
theorem pz_gp {a ci j idx : Nat} {v : Value} (D : decode (pz_b k) pc = .ok (.putfield idx, 3)) (hq : pz_fld (pz_kc k) idx = some (ci, j)) (h1 : pz_wr ci j = true) (h2 : narrow (pz_fty ci j) v = v) (h3 : fits (pz_fty ci j) v = true) : pz_R dA d k pc ls (v :: .ref a :: st) f Q = pz_o (pz_pf f a ci j v) (fun f' => pz_R dA d k (pc + 3) ls st f' Q) := by
  refine pz_gb (z := pz_pf f a ci j v) (pc' := fun _ => pc + 3) (ls' := fun _ => ls) (st' := fun _ => st) (f' := fun f' => f') (pz_so D ?_)
  simp only [pz_st1, pz_ex, pz_g1, pz_svr, hq, h1, h2, h3, and_self, if_true]
theorem pz_gg {a ci j idx : Nat} (D : decode (pz_b k) pc = .ok (.getfield idx, 3)) (hq : pz_fld (pz_kc k) idx = some (ci, j)) : pz_R dA d k pc ls (.ref a :: st) f Q = pz_o (pz_gf f a ci j) (fun v => pz_R dA d k (pc + 3) ls (v :: st) f Q) := by
  refine pz_gb (z := pz_gf f a ci j) (pc' := fun _ => pc + 3) (ls' := fun _ => ls) (st' := fun v => v :: st) (f' := fun _ => f) (pz_so D ?_)
  simp only [pz_st1, pz_ex, pz_g1, pz_sr, hq, if_true]
theorem pz_gcv {idx k' b : Nat} {As : List Value} (D : decode (pz_b k) pc = .ok (.invokevirtual idx, 3)) (hm : pz_mth (pz_kc k) idx = some k') (hv : pz_vi k' = true) (hp : pz_pk (pz_pt k') As = true) (hr : st.length ≤ 4) : pz_R dA (d + 1) k pc ls (As.reverse ++ .ref b :: st) f Q = pz_o (pz_gu f b (pz_ko k')) (fun _ => pz_C dA d k' (.ref b :: As) f (fun r f' => pz_R dA (d + 1) k (pc + 3) ls (r.toList ++ st) f' Q)) := by
  have hl := (pz_pk_all _ _ hp).1
  have h1 : (As.reverse ++ Value.ref b :: st).drop (pz_pt k').length = Value.ref b :: st := by
    rw [← hl, ← List.length_reverse]
    exact List.drop_left
  have h2 : ((As.reverse ++ Value.ref b :: st).take (pz_pt k').length).reverse = As := by
    rw [← hl, ← List.length_reverse, List.take_left, List.reverse_reverse]
  refine pz_gc (z := pz_gu f b (pz_ko k')) (pz_so D ?_)
  simp only [pz_st1, pz_cv, pz_g1, hm, h1, h2, pz_sr, hv, hp, hr, and_self, if_true]
theorem pz_gcs {idx k' : Nat} {As : List Value} (D : decode (pz_b k) pc = .ok (.invokestatic idx, 3)) (hm : pz_mth (pz_kc k) idx = some k') (hv : pz_vi k' = false) (hp : pz_pk (pz_pt k') As = true) (hr : st.length ≤ 4) : pz_R dA (d + 1) k pc ls (As.reverse ++ st) f Q = pz_C dA d k' As f (fun r f' => pz_R dA (d + 1) k (pc + 3) ls (r.toList ++ st) f' Q) := by
  have hl := (pz_pk_all _ _ hp).1
  have h1 : (As.reverse ++ st).drop (pz_pt k').length = st := by
    rw [← hl, ← List.length_reverse]
    exact List.drop_left
  have h2 : ((As.reverse ++ st).take (pz_pt k').length).reverse = As := by
    rw [← hl, ← List.length_reverse, List.take_left, List.reverse_reverse]
  refine pz_gs (pz_so D ?_)
  simp only [pz_st1, pz_cz, pz_g1, hm, h1, h2, hv, hp, hr, and_self, if_true, Option.isSome_some]
theorem pz_gmx {idx : Nat} {x y : Int32} (D : decode (pz_b k) pc = .ok (.invokestatic idx, 3)) (hm : pz_mth (pz_kc k) idx = none) (h1 : pz_mx (pz_kc k) idx = true) (hr : st.length ≤ 4) : pz_R dA d k pc ls (.int y :: .int x :: st) f Q = pz_R dA d k (pc + 3) ls (.int (if x < y then y else x) :: st) f Q := by
  refine pz_go (pz_so D ?_)
  simp only [pz_st1, pz_ex, pz_g1, hm, h1, pz_sii, hr, if_true, Option.isSome_none, Bool.false_eq_true, if_false, Option.map_some]
theorem pz_gmn {idx : Nat} {x y : Int32} (D : decode (pz_b k) pc = .ok (.invokestatic idx, 3)) (hm : pz_mth (pz_kc k) idx = none) (h1 : pz_mx (pz_kc k) idx = false) (h2 : pz_mn (pz_kc k) idx = true) (hr : st.length ≤ 4) : pz_R dA d k pc ls (.int y :: .int x :: st) f Q = pz_R dA d k (pc + 3) ls (.int (if y < x then y else x) :: st) f Q := by
  refine pz_go (pz_so D ?_)
  simp only [pz_st1, pz_ex, pz_g1, hm, h1, h2, pz_sii, hr, if_true, Option.isSome_none, Bool.false_eq_true, if_false, Option.map_some]
theorem pz_gil {i : Int32} {a : Nat} (D : decode (pz_b k) pc = .ok (.iaload, 1)) : pz_R dA d k pc ls (.int i :: .ref a :: st) f Q = pz_o (pz_il (dA 0) f a i) (fun x => pz_R dA d k (pc + 1) ls (.int x :: st) f Q) := by
  refine pz_gb (z := pz_il (dA 0) f a i) (pc' := fun _ => pc + 1) (ls' := fun _ => ls) (st' := fun x => .int x :: st) (f' := fun _ => f) (pz_so D ?_)
  simp only [pz_st1, pz_ex, pz_g1, pz_sir, if_true]
theorem pz_gzl {i : Int32} {a : Nat} (D : decode (pz_b k) pc = .ok (.baload, 1)) : pz_R dA d k pc ls (.int i :: .ref a :: st) f Q = pz_o (pz_il (dA 1) f a i) (fun x => pz_R dA d k (pc + 1) ls (.int x :: st) f Q) := by
  refine pz_gb (z := pz_il (dA 1) f a i) (pc' := fun _ => pc + 1) (ls' := fun _ => ls) (st' := fun x => .int x :: st) (f' := fun _ => f) (pz_so D ?_)
  simp only [pz_st1, pz_ex, pz_g1, pz_sir, if_true]
theorem pz_grl {i : Int32} {a : Nat} (D : decode (pz_b k) pc = .ok (.aaload, 1)) : pz_R dA d k pc ls (.int i :: .ref a :: st) f Q = pz_o (pz_rl dA f a i) (fun v => pz_R dA d k (pc + 1) ls (v :: st) f Q) := by
  refine pz_gb (z := pz_rl dA f a i) (pc' := fun _ => pc + 1) (ls' := fun _ => ls) (st' := fun v => v :: st) (f' := fun _ => f) (pz_so D ?_)
  simp only [pz_st1, pz_ex, pz_g1, pz_sir, if_true]
theorem pz_gis {x i : Int32} {a : Nat} (D : decode (pz_b k) pc = .ok (.iastore, 1)) : pz_R dA d k pc ls (.int x :: .int i :: .ref a :: st) f Q = pz_o (pz_is (dA 0) f a i x) (fun f' => pz_R dA d k (pc + 1) ls st f' Q) := by
  refine pz_gb (z := pz_is (dA 0) f a i x) (pc' := fun _ => pc + 1) (ls' := fun _ => ls) (st' := fun _ => st) (f' := fun f' => f') (pz_so D ?_)
  simp only [pz_st1, pz_ex, pz_g1, pz_siir, if_true]
theorem pz_gzs {x y i : Int32} {a : Nat} (D : decode (pz_b k) pc = .ok (.bastore, 1)) (hx : vp_nar .boolean x = y) : pz_R dA d k pc ls (.int x :: .int i :: .ref a :: st) f Q = pz_o (pz_is (dA 1) f a i y) (fun f' => pz_R dA d k (pc + 1) ls st f' Q) := by
  subst hx
  refine pz_gb (z := pz_is (dA 1) f a i (vp_nar .boolean x)) (pc' := fun _ => pc + 1) (ls' := fun _ => ls) (st' := fun _ => st) (f' := fun f' => f') (pz_so D ?_)
  simp only [pz_st1, pz_ex, pz_g1, pz_siir, if_true]
theorem pz_grs {i : Int32} {q a : Nat} (D : decode (pz_b k) pc = .ok (.aastore, 1)) : pz_R dA d k pc ls (.ref q :: .int i :: .ref a :: st) f Q = pz_o (pz_rs dA f a i q) (fun f' => pz_R dA d k (pc + 1) ls st f' Q) := by
  refine pz_gb (z := pz_rs dA f a i q) (pc' := fun _ => pc + 1) (ls' := fun _ => ls) (st' := fun _ => st) (f' := fun f' => f') (pz_so D ?_)
  simp only [pz_st1, pz_ex, pz_g1, pz_srir, if_true]
theorem pz_gre {x y : Int32} (D : decode (pz_b k) pc = .ok (.irem, 1)) (hy : ¬ y = 0) : pz_R dA d k pc ls (.int y :: .int x :: st) f Q = pz_R dA d k (pc + 1) ls (.int (x - x / y * y) :: st) f Q := by
  refine pz_go (pz_so D ?_)
  simp only [pz_st1, pz_ex, pz_g1, pz_sii, if_true, if_neg hy, Option.map_some]
theorem pz_gri {x : Int32} {ty : FieldType} (D : decode (pz_b k) pc = .ok (.ireturn, 1)) (hr : pz_ret k = some ty) (hn : narrow ty (.int x) = .int x) : pz_R dA d k pc ls [.int x] f Q = Q (some (.int x)) f := by
  refine pz_gr (pz_so D ?_)
  simp only [pz_st1, pz_ei, pz_g1, hr, hn, if_true]
theorem pz_gjn {x y : Int32} {off : Int} {t : Nat} (c : Jvm.ClassFile.Cond) (D : decode (pz_b k) pc = .ok (.if_icmp c off, 3)) (ht : (pc : Int) + off = (t : Int)) : pz_R dA d k pc ls (.int y :: .int x :: st) f Q = pz_br c x y (pz_R dA d k t ls st f Q) (pz_R dA d k (pc + 3) ls st f Q) := by
  have h0 : pz_st1 dA k pc 3 ls (.int y :: .int x :: st) f (.if_icmp c off) = Option.map .inl (pz_br c x y (some (t, ls, st, f)) (some (pc + 3, ls, st, f))) := by
    simp only [pz_st1, pz_ex, pz_g1, pz_sii, pz_j, ht, Int.toNat_natCast, if_true]
  have h1 := pz_so D h0
  cases c <;> (simp only [pz_br] at h1 ⊢; exact pz_gi h1)
theorem pz_gj1 {x : Int32} {off : Int} {t : Nat} (c : Jvm.ClassFile.Cond) (D : decode (pz_b k) pc = .ok (.ifCond c off, 3)) (ht : (pc : Int) + off = (t : Int)) : pz_R dA d k pc ls (.int x :: st) f Q = pz_br c x 0 (pz_R dA d k t ls st f Q) (pz_R dA d k (pc + 3) ls st f Q) := by
  have h0 : pz_st1 dA k pc 3 ls (.int x :: st) f (.ifCond c off) = Option.map .inl (pz_br c x 0 (some (t, ls, st, f)) (some (pc + 3, ls, st, f))) := by
    simp only [pz_st1, pz_ex, pz_g1, pz_si, pz_j, ht, Int.toNat_natCast, if_true]
  have h1 := pz_so D h0
  cases c <;> (simp only [pz_br] at h1 ⊢; exact pz_gi h1)
theorem pz_gtd {x : Int32} {dflt lo hi : Int} {offs : Array Int} {n t : Nat} (D : decode (pz_b k) pc = .ok (.tableswitch dflt lo hi offs, n)) (h : x.toInt < lo ∨ hi < x.toInt) (ht : (pc : Int) + dflt = (t : Int)) : pz_R dA d k pc ls (.int x :: st) f Q = pz_R dA d k t ls st f Q := by
  refine pz_go (pz_so D ?_)
  simp only [pz_st1, pz_ex, pz_si, pz_j, ht, Int.toNat_natCast, if_true, if_pos h, Option.map_some]
theorem pz_gti {x : Int32} {dflt lo hi off : Int} {offs : Array Int} {n t : Nat} (D : decode (pz_b k) pc = .ok (.tableswitch dflt lo hi offs, n)) (h : ¬ (x.toInt < lo ∨ hi < x.toInt)) (ho : offs[(x.toInt - lo).toNat]? = some off) (ht : (pc : Int) + off = (t : Int)) : pz_R dA d k pc ls (.int x :: st) f Q = pz_R dA d k t ls st f Q := by
  refine pz_go (pz_so D ?_)
  simp only [pz_st1, pz_ex, pz_si, pz_j, ht, Int.toNat_natCast, if_true, if_neg h, ho, Option.map_some]
end PZH
end
section
/-! P_tick ()I -/
theorem e1 {dA : Nat → ClassId} {d : Nat} {f : pz_F} {Q : Option Value → pz_F → Prop} {a0 : Nat} : pz_C dA d 1 [.ref a0] f Q = pz_R dA d 1 0 [.ref a0, .retAddr 0] [] f Q := rfl
theorem d1_0 : decode (pz_b 1) 0 = .ok (.aload_n 0, 1) := by decide +kernel
theorem q1_0 {dA : Nat → ClassId} {d : Nat} {st : List Value} {f : pz_F} {Q : Option Value → pz_F → Prop} {v1 : Value} {x : Nat} : pz_R dA d 1 0 [.ref x, v1] st f Q = pz_R dA d 1 1 [.ref x, v1] (.ref x :: st) f Q := pz_go (pz_so d1_0 rfl)
theorem d1_1 : decode (pz_b 1) 1 = .ok (.dup, 1) := by decide +kernel
theorem q1_1 {dA : Nat → ClassId} {d : Nat} {st : List Value} {f : pz_F} {Q : Option Value → pz_F → Prop} {v0 v1 : Value} {x : Nat} : pz_R dA d 1 1 [v0, v1] (.ref x :: st) f Q = pz_R dA d 1 2 [v0, v1] (.ref x :: .ref x :: st) f Q := pz_go (pz_so d1_1 rfl)
theorem d1_2 : decode (pz_b 1) 2 = .ok (.getfield 7, 3) := by decide +kernel
theorem q1_2 {dA : Nat → ClassId} {d : Nat} {st : List Value} {f : pz_F} {Q : Option Value → pz_F → Prop} {v0 v1 : Value} {a : Nat} : pz_R dA d 1 2 [v0, v1] (.ref a :: st) f Q = pz_o (pz_gf f a 0 0) (fun v => pz_R dA d 1 5 [v0, v1] (v :: st) f Q) := pz_gg d1_2 rfl
theorem d1_5 : decode (pz_b 1) 5 = .ok (.iconst 1, 1) := by decide +kernel
theorem q1_5 {dA : Nat → ClassId} {d : Nat} {st : List Value} {f : pz_F} {Q : Option Value → pz_F → Prop} {v0 v1 : Value} : pz_R dA d 1 5 [v0, v1] st f Q = pz_R dA d 1 6 [v0, v1] (.int 1 :: st) f Q := pz_go (pz_so d1_5 rfl)
theorem d1_6 : decode (pz_b 1) 6 = .ok (.iadd, 1) := by decide +kernel
theorem q1_6 {dA : Nat → ClassId} {d : Nat} {st : List Value} {f : pz_F} {Q : Option Value → pz_F → Prop} {v0 v1 : Value} {x y : Int32} : pz_R dA d 1 6 [v0, v1] (.int y :: .int x :: st) f Q = pz_R dA d 1 7 [v0, v1] (.int (x + y) :: st) f Q := pz_go (pz_so d1_6 rfl)
theorem d1_7 : decode (pz_b 1) 7 = .ok (.putfield 7, 3) := by decide +kernel
theorem q1_7 {dA : Nat → ClassId} {d : Nat} {st : List Value} {f : pz_F} {Q : Option Value → pz_F → Prop} {v0 v1 : Value} {x : Int32} {a : Nat} : pz_R dA d 1 7 [v0, v1] (.int x :: .ref a :: st) f Q = pz_o (pz_pf f a 0 0 (.int x)) (fun f' => pz_R dA d 1 10 [v0, v1] st f' Q) := pz_gp d1_7 rfl rfl rfl rfl
theorem d1_10 : decode (pz_b 1) 10 = .ok (.aload_n 0, 1) := by decide +kernel
theorem q1_10 {dA : Nat → ClassId} {d : Nat} {st : List Value} {f : pz_F} {Q : Option Value → pz_F → Prop} {v1 : Value} {x : Nat} : pz_R dA d 1 10 [.ref x, v1] st f Q = pz_R dA d 1 11 [.ref x, v1] (.ref x :: st) f Q := pz_go (pz_so d1_10 rfl)
theorem d1_11 : decode (pz_b 1) 11 = .ok (.getfield 36, 3) := by decide +kernel
theorem q1_11 {dA : Nat → ClassId} {d : Nat} {st : List Value} {f : pz_F} {Q : Option Value → pz_F → Prop} {v0 v1 : Value} {a : Nat} : pz_R dA d 1 11 [v0, v1] (.ref a :: st) f Q = pz_o (pz_gf f a 0 4) (fun v => pz_R dA d 1 14 [v0, v1] (v :: st) f Q) := pz_gg d1_11 rfl
theorem d1_14 : decode (pz_b 1) 14 = .ok (.aload_n 0, 1) := by decide +kernel
theorem q1_14 {dA : Nat → ClassId} {d : Nat} {st : List Value} {f : pz_F} {Q : Option Value → pz_F → Prop} {v1 : Value} {x : Nat} : pz_R dA d 1 14 [.ref x, v1] st f Q = pz_R dA d 1 15 [.ref x, v1] (.ref x :: st) f Q := pz_go (pz_so d1_14 rfl)
theorem d1_15 : decode (pz_b 1) 15 = .ok (.getfield 7, 3) := by decide +kernel
theorem q1_15 {dA : Nat → ClassId} {d : Nat} {st : List Value} {f : pz_F} {Q : Option Value → pz_F → Prop} {v0 v1 : Value} {a : Nat} : pz_R dA d 1 15 [v0, v1] (.ref a :: st) f Q = pz_o (pz_gf f a 0 0) (fun v => pz_R dA d 1 18 [v0, v1] (v :: st) f Q) := pz_gg d1_15 rfl
theorem d1_18 : decode (pz_b 1) 18 = .ok (.iconst 3, 1) := by decide +kernel
theorem q1_18 {dA : Nat → ClassId} {d : Nat} {st : List Value} {f : pz_F} {Q : Option Value → pz_F → Prop} {v0 v1 : Value} : pz_R dA d 1 18 [v0, v1] st f Q = pz_R dA d 1 19 [v0, v1] (.int 3 :: st) f Q := pz_go (pz_so d1_18 rfl)
theorem d1_19 : decode (pz_b 1) 19 = .ok (.isub, 1) := by decide +kernel
theorem q1_19 {dA : Nat → ClassId} {d : Nat} {st : List Value} {f : pz_F} {Q : Option Value → pz_F → Prop} {v0 v1 : Value} {x y : Int32} : pz_R dA d 1 19 [v0, v1] (.int y :: .int x :: st) f Q = pz_R dA d 1 20 [v0, v1] (.int (x - y) :: st) f Q := pz_go (pz_so d1_19 rfl)
theorem d1_20 : decode (pz_b 1) 20 = .ok (.invokevirtual 40, 3) := by decide +kernel
theorem q1_20 {dA : Nat → ClassId} {d : Nat} {st : List Value} {f : pz_F} {Q : Option Value → pz_F → Prop} {v0 v1 : Value} {c0 : Int32} {b : Nat} (hr : st.length ≤ 4) : pz_R dA (d + 1) 1 20 [v0, v1] (.int c0 :: .ref b :: st) f Q = pz_o (pz_gu f b 4) (fun _ => pz_C dA d 76 [.ref b, .int c0] f (fun r f' => pz_R dA (d + 1) 1 23 [v0, v1] (r.toList ++ st) f' Q)) := pz_gcv (As := [.int c0]) d1_20 rfl rfl rfl hr
theorem d1_23 : decode (pz_b 1) 23 = .ok (.iconst 0, 1) := by decide +kernel
theorem q1_23 {dA : Nat → ClassId} {d : Nat} {st : List Value} {f : pz_F} {Q : Option Value → pz_F → Prop} {v0 v1 : Value} : pz_R dA d 1 23 [v0, v1] st f Q = pz_R dA d 1 24 [v0, v1] (.int 0 :: st) f Q := pz_go (pz_so d1_23 rfl)
theorem d1_24 : decode (pz_b 1) 24 = .ok (.istore_n 1, 1) := by decide +kernel
theorem q1_24 {dA : Nat → ClassId} {d : Nat} {st : List Value} {f : pz_F} {Q : Option Value → pz_F → Prop} {v0 v1 : Value} {x : Int32} : pz_R dA d 1 24 [v0, v1] (.int x :: st) f Q = pz_R dA d 1 25 [v0, .int x] st f Q := pz_go (pz_so d1_24 rfl)
theorem d1_25 : decode (pz_b 1) 25 = .ok (.iload_n 1, 1) := by decide +kernel
theorem q1_25 {dA : Nat → ClassId} {d : Nat} {st : List Value} {f : pz_F} {Q : Option Value → pz_F → Prop} {v0 : Value} {x : Int32} : pz_R dA d 1 25 [v0, .int x] st f Q = pz_R dA d 1 26 [v0, .int x] (.int x :: st) f Q := pz_go (pz_so d1_25 rfl)
theorem d1_26 : decode (pz_b 1) 26 = .ok (.iconst 5, 1) := by decide +kernel
theorem q1_26 {dA : Nat → ClassId} {d : Nat} {st : List Value} {f : pz_F} {Q : Option Value → pz_F → Prop} {v0 v1 : Value} : pz_R dA d 1 26 [v0, v1] st f Q = pz_R dA d 1 27 [v0, v1] (.int 5 :: st) f Q := pz_go (pz_so d1_26 rfl)
theorem d1_27 : decode (pz_b 1) 27 = .ok (.if_icmp .ge 22, 3) := by decide +kernel
theorem q1_27 {dA : Nat → ClassId} {d : Nat} {st : List Value} {f : pz_F} {Q : Option Value → pz_F → Prop} {v0 v1 : Value} {x y : Int32} : pz_R dA d 1 27 [v0, v1] (.int y :: .int x :: st) f Q = (if y ≤ x then pz_R dA d 1 49 [v0, v1] st f Q else pz_R dA d 1 30 [v0, v1] st f Q) := pz_gjn .ge d1_27 rfl
theorem d1_30 : decode (pz_b 1) 30 = .ok (.aload_n 0, 1) := by decide +kernel
theorem q1_30 {dA : Nat → ClassId} {d : Nat} {st : List Value} {f : pz_F} {Q : Option Value → pz_F → Prop} {v1 : Value} {x : Nat} : pz_R dA d 1 30 [.ref x, v1] st f Q = pz_R dA d 1 31 [.ref x, v1] (.ref x :: st) f Q := pz_go (pz_so d1_30 rfl)
theorem d1_31 : decode (pz_b 1) 31 = .ok (.getfield 28, 3) := by decide +kernel
theorem q1_31 {dA : Nat → ClassId} {d : Nat} {st : List Value} {f : pz_F} {Q : Option Value → pz_F → Prop} {v0 v1 : Value} {a : Nat} : pz_R dA d 1 31 [v0, v1] (.ref a :: st) f Q = pz_o (pz_gf f a 0 3) (fun v => pz_R dA d 1 34 [v0, v1] (v :: st) f Q) := pz_gg d1_31 rfl
theorem d1_34 : decode (pz_b 1) 34 = .ok (.iload_n 1, 1) := by decide +kernel
theorem q1_34 {dA : Nat → ClassId} {d : Nat} {st : List Value} {f : pz_F} {Q : Option Value → pz_F → Prop} {v0 : Value} {x : Int32} : pz_R dA d 1 34 [v0, .int x] st f Q = pz_R dA d 1 35 [v0, .int x] (.int x :: st) f Q := pz_go (pz_so d1_34 rfl)
theorem d1_35 : decode (pz_b 1) 35 = .ok (.aaload, 1) := by decide +kernel
theorem q1_35 {dA : Nat → ClassId} {d : Nat} {st : List Value} {f : pz_F} {Q : Option Value → pz_F → Prop} {v0 v1 : Value} {i : Int32} {a : Nat} : pz_R dA d 1 35 [v0, v1] (.int i :: .ref a :: st) f Q = pz_o (pz_rl dA f a i) (fun v => pz_R dA d 1 36 [v0, v1] (v :: st) f Q) := pz_grl d1_35
theorem d1_36 : decode (pz_b 1) 36 = .ok (.aload_n 0, 1) := by decide +kernel
theorem q1_36 {dA : Nat → ClassId} {d : Nat} {st : List Value} {f : pz_F} {Q : Option Value → pz_F → Prop} {v1 : Value} {x : Nat} : pz_R dA d 1 36 [.ref x, v1] st f Q = pz_R dA d 1 37 [.ref x, v1] (.ref x :: st) f Q := pz_go (pz_so d1_36 rfl)
theorem d1_37 : decode (pz_b 1) 37 = .ok (.getfield 7, 3) := by decide +kernel
theorem q1_37 {dA : Nat → ClassId} {d : Nat} {st : List Value} {f : pz_F} {Q : Option Value → pz_F → Prop} {v0 v1 : Value} {a : Nat} : pz_R dA d 1 37 [v0, v1] (.ref a :: st) f Q = pz_o (pz_gf f a 0 0) (fun v => pz_R dA d 1 40 [v0, v1] (v :: st) f Q) := pz_gg d1_37 rfl
theorem d1_40 : decode (pz_b 1) 40 = .ok (.invokevirtual 43, 3) := by decide +kernel
theorem q1_40 {dA : Nat → ClassId} {d : Nat} {st : List Value} {f : pz_F} {Q : Option Value → pz_F → Prop} {v0 v1 : Value} {c0 : Int32} {b : Nat} (hr : st.length ≤ 4) : pz_R dA (d + 1) 1 40 [v0, v1] (.int c0 :: .ref b :: st) f Q = pz_o (pz_gu f b 3) (fun _ => pz_C dA d 67 [.ref b, .int c0] f (fun r f' => pz_R dA (d + 1) 1 43 [v0, v1] (r.toList ++ st) f' Q)) := pz_gcv (As := [.int c0]) d1_40 rfl rfl rfl hr
theorem d1_43 : decode (pz_b 1) 43 = .ok (.iinc 1 1, 3) := by decide +kernel
theorem q1_43 {dA : Nat → ClassId} {d : Nat} {st : List Value} {f : pz_F} {Q : Option Value → pz_F → Prop} {v0 : Value} {x : Int32} : pz_R dA d 1 43 [v0, .int x] st f Q = pz_R dA d 1 46 [v0, .int (x + 1)] st f Q := pz_go (pz_so d1_43 rfl)
theorem d1_46 : decode (pz_b 1) 46 = .ok (.goto (-21), 3) := by decide +kernel
theorem q1_46 {dA : Nat → ClassId} {d : Nat} {st : List Value} {f : pz_F} {Q : Option Value → pz_F → Prop} {v0 v1 : Value} : pz_R dA d 1 46 [v0, v1] st f Q = pz_R dA d 1 25 [v0, v1] st f Q := pz_go (pz_so d1_46 rfl)
theorem d1_49 : decode (pz_b 1) 49 = .ok (.iconst 0, 1) := by decide +kernel
theorem q1_49 {dA : Nat → ClassId} {d : Nat} {st : List Value} {f : pz_F} {Q : Option Value → pz_F → Prop} {v0 v1 : Value} : pz_R dA d 1 49 [v0, v1] st f Q = pz_R dA d 1 50 [v0, v1] (.int 0 :: st) f Q := pz_go (pz_so d1_49 rfl)
theorem d1_50 : decode (pz_b 1) 50 = .ok (.istore_n 1, 1) := by decide +kernel
theorem q1_50 {dA : Nat → ClassId} {d : Nat} {st : List Value} {f : pz_F} {Q : Option Value → pz_F → Prop} {v0 v1 : Value} {x : Int32} : pz_R dA d 1 50 [v0, v1] (.int x :: st) f Q = pz_R dA d 1 51 [v0, .int x] st f Q := pz_go (pz_so d1_50 rfl)
theorem d1_51 : decode (pz_b 1) 51 = .ok (.iload_n 1, 1) := by decide +kernel
theorem q1_51 {dA : Nat → ClassId} {d : Nat} {st : List Value} {f : pz_F} {Q : Option Value → pz_F → Prop} {v0 : Value} {x : Int32} : pz_R dA d 1 51 [v0, .int x] st f Q = pz_R dA d 1 52 [v0, .int x] (.int x :: st) f Q := pz_go (pz_so d1_51 rfl)
theorem d1_52 : decode (pz_b 1) 52 = .ok (.iconst 2, 1) := by decide +kernel
theorem q1_52 {dA : Nat → ClassId} {d : Nat} {st : List Value} {f : pz_F} {Q : Option Value → pz_F → Prop} {v0 v1 : Value} : pz_R dA d 1 52 [v0, v1] st f Q = pz_R dA d 1 53 [v0, v1] (.int 2 :: st) f Q := pz_go (pz_so d1_52 rfl)
theorem d1_53 : decode (pz_b 1) 53 = .ok (.if_icmp .ge 31, 3) := by decide +kernel
theorem q1_53 {dA : Nat → ClassId} {d : Nat} {st : List Value} {f : pz_F} {Q : Option Value → pz_F → Prop} {v0 v1 : Value} {x y : Int32} : pz_R dA d 1 53 [v0, v1] (.int y :: .int x :: st) f Q = (if y ≤ x then pz_R dA d 1 84 [v0, v1] st f Q else pz_R dA d 1 56 [v0, v1] st f Q) := pz_gjn .ge d1_53 rfl
theorem d1_56 : decode (pz_b 1) 56 = .ok (.aload_n 0, 1) := by decide +kernel
theorem q1_56 {dA : Nat → ClassId} {d : Nat} {st : List Value} {f : pz_F} {Q : Option Value → pz_F → Prop} {v1 : Value} {x : Nat} : pz_R dA d 1 56 [.ref x, v1] st f Q = pz_R dA d 1 57 [.ref x, v1] (.ref x :: st) f Q := pz_go (pz_so d1_56 rfl)
theorem d1_57 : decode (pz_b 1) 57 = .ok (.getfield 19, 3) := by decide +kernel
theorem q1_57 {dA : Nat → ClassId} {d : Nat} {st : List Value} {f : pz_F} {Q : Option Value → pz_F → Prop} {v0 v1 : Value} {a : Nat} : pz_R dA d 1 57 [v0, v1] (.ref a :: st) f Q = pz_o (pz_gf f a 0 2) (fun v => pz_R dA d 1 60 [v0, v1] (v :: st) f Q) := pz_gg d1_57 rfl
theorem d1_60 : decode (pz_b 1) 60 = .ok (.iload_n 1, 1) := by decide +kernel
theorem q1_60 {dA : Nat → ClassId} {d : Nat} {st : List Value} {f : pz_F} {Q : Option Value → pz_F → Prop} {v0 : Value} {x : Int32} : pz_R dA d 1 60 [v0, .int x] st f Q = pz_R dA d 1 61 [v0, .int x] (.int x :: st) f Q := pz_go (pz_so d1_60 rfl)
theorem d1_61 : decode (pz_b 1) 61 = .ok (.aaload, 1) := by decide +kernel
theorem q1_61 {dA : Nat → ClassId} {d : Nat} {st : List Value} {f : pz_F} {Q : Option Value → pz_F → Prop} {v0 v1 : Value} {i : Int32} {a : Nat} : pz_R dA d 1 61 [v0, v1] (.int i :: .ref a :: st) f Q = pz_o (pz_rl dA f a i) (fun v => pz_R dA d 1 62 [v0, v1] (v :: st) f Q) := pz_grl d1_61
theorem d1_62 : decode (pz_b 1) 62 = .ok (.getfield 46, 3) := by decide +kernel
theorem q1_62 {dA : Nat → ClassId} {d : Nat} {st : List Value} {f : pz_F} {Q : Option Value → pz_F → Prop} {v0 v1 : Value} {a : Nat} : pz_R dA d 1 62 [v0, v1] (.ref a :: st) f Q = pz_o (pz_gf f a 1 2) (fun v => pz_R dA d 1 65 [v0, v1] (v :: st) f Q) := pz_gg d1_62 rfl
theorem d1_65 : decode (pz_b 1) 65 = .ok (.ifCond .eq 13, 3) := by decide +kernel
theorem q1_65 {dA : Nat → ClassId} {d : Nat} {st : List Value} {f : pz_F} {Q : Option Value → pz_F → Prop} {v0 v1 : Value} {x : Int32} : pz_R dA d 1 65 [v0, v1] (.int x :: st) f Q = (if x = 0 then pz_R dA d 1 78 [v0, v1] st f Q else pz_R dA d 1 68 [v0, v1] st f Q) := pz_gj1 .eq d1_65 rfl
theorem d1_68 : decode (pz_b 1) 68 = .ok (.aload_n 0, 1) := by decide +kernel
theorem q1_68 {dA : Nat → ClassId} {d : Nat} {st : List Value} {f : pz_F} {Q : Option Value → pz_F → Prop} {v1 : Value} {x : Nat} : pz_R dA d 1 68 [.ref x, v1] st f Q = pz_R dA d 1 69 [.ref x, v1] (.ref x :: st) f Q := pz_go (pz_so d1_68 rfl)
theorem d1_69 : decode (pz_b 1) 69 = .ok (.aload_n 0, 1) := by decide +kernel
theorem q1_69 {dA : Nat → ClassId} {d : Nat} {st : List Value} {f : pz_F} {Q : Option Value → pz_F → Prop} {v1 : Value} {x : Nat} : pz_R dA d 1 69 [.ref x, v1] st f Q = pz_R dA d 1 70 [.ref x, v1] (.ref x :: st) f Q := pz_go (pz_so d1_69 rfl)
theorem d1_70 : decode (pz_b 1) 70 = .ok (.getfield 19, 3) := by decide +kernel
theorem q1_70 {dA : Nat → ClassId} {d : Nat} {st : List Value} {f : pz_F} {Q : Option Value → pz_F → Prop} {v0 v1 : Value} {a : Nat} : pz_R dA d 1 70 [v0, v1] (.ref a :: st) f Q = pz_o (pz_gf f a 0 2) (fun v => pz_R dA d 1 73 [v0, v1] (v :: st) f Q) := pz_gg d1_70 rfl
theorem d1_73 : decode (pz_b 1) 73 = .ok (.iload_n 1, 1) := by decide +kernel
theorem q1_73 {dA : Nat → ClassId} {d : Nat} {st : List Value} {f : pz_F} {Q : Option Value → pz_F → Prop} {v0 : Value} {x : Int32} : pz_R dA d 1 73 [v0, .int x] st f Q = pz_R dA d 1 74 [v0, .int x] (.int x :: st) f Q := pz_go (pz_so d1_73 rfl)
theorem d1_74 : decode (pz_b 1) 74 = .ok (.aaload, 1) := by decide +kernel
theorem q1_74 {dA : Nat → ClassId} {d : Nat} {st : List Value} {f : pz_F} {Q : Option Value → pz_F → Prop} {v0 v1 : Value} {i : Int32} {a : Nat} : pz_R dA d 1 74 [v0, v1] (.int i :: .ref a :: st) f Q = pz_o (pz_rl dA f a i) (fun v => pz_R dA d 1 75 [v0, v1] (v :: st) f Q) := pz_grl d1_74
theorem d1_75 : decode (pz_b 1) 75 = .ok (.invokevirtual 49, 3) := by decide +kernel
theorem q1_75 {dA : Nat → ClassId} {d : Nat} {st : List Value} {f : pz_F} {Q : Option Value → pz_F → Prop} {v0 v1 : Value} {c0 : Nat} {b : Nat} (hr : st.length ≤ 4) : pz_R dA (d + 1) 1 75 [v0, v1] (.ref c0 :: .ref b :: st) f Q = pz_o (pz_gu f b 0) (fun _ => pz_C dA d 20 [.ref b, .ref c0] f (fun r f' => pz_R dA (d + 1) 1 78 [v0, v1] (r.toList ++ st) f' Q)) := pz_gcv (As := [.ref c0]) d1_75 rfl rfl rfl hr
theorem d1_78 : decode (pz_b 1) 78 = .ok (.iinc 1 1, 3) := by decide +kernel
theorem q1_78 {dA : Nat → ClassId} {d : Nat} {st : List Value} {f : pz_F} {Q : Option Value → pz_F → Prop} {v0 : Value} {x : Int32} : pz_R dA d 1 78 [v0, .int x] st f Q = pz_R dA d 1 81 [v0, .int (x + 1)] st f Q := pz_go (pz_so d1_78 rfl)
theorem d1_81 : decode (pz_b 1) 81 = .ok (.goto (-30), 3) := by decide +kernel
theorem q1_81 {dA : Nat → ClassId} {d : Nat} {st : List Value} {f : pz_F} {Q : Option Value → pz_F → Prop} {v0 v1 : Value} : pz_R dA d 1 81 [v0, v1] st f Q = pz_R dA d 1 51 [v0, v1] st f Q := pz_go (pz_so d1_81 rfl)
theorem d1_84 : decode (pz_b 1) 84 = .ok (.aload_n 0, 1) := by decide +kernel
theorem q1_84 {dA : Nat → ClassId} {d : Nat} {st : List Value} {f : pz_F} {Q : Option Value → pz_F → Prop} {v1 : Value} {x : Nat} : pz_R dA d 1 84 [.ref x, v1] st f Q = pz_R dA d 1 85 [.ref x, v1] (.ref x :: st) f Q := pz_go (pz_so d1_84 rfl)
theorem d1_85 : decode (pz_b 1) 85 = .ok (.getfield 7, 3) := by decide +kernel
theorem q1_85 {dA : Nat → ClassId} {d : Nat} {st : List Value} {f : pz_F} {Q : Option Value → pz_F → Prop} {v0 v1 : Value} {a : Nat} : pz_R dA d 1 85 [v0, v1] (.ref a :: st) f Q = pz_o (pz_gf f a 0 0) (fun v => pz_R dA d 1 88 [v0, v1] (v :: st) f Q) := pz_gg d1_85 rfl
theorem d1_88 : decode (pz_b 1) 88 = .ok (.ireturn, 1) := by decide +kernel
theorem q1_88 {dA : Nat → ClassId} {d : Nat} {st : List Value} {f : pz_F} {Q : Option Value → pz_F → Prop} {v0 v1 : Value} {x : Int32} : pz_R dA d 1 88 [v0, v1] [.int x] f Q = Q (some (.int x)) f := pz_gri d1_88 rfl rfl
/-! P_ask (II)Z -/
theorem e2 {dA : Nat → ClassId} {d : Nat} {f : pz_F} {Q : Option Value → pz_F → Prop} {a0 : Nat} {a1 : Int32} {a2 : Int32} : pz_C dA d 2 [.ref a0, .int a1, .int a2] f Q = pz_R dA d 2 0 [.ref a0, .int a1, .int a2, .retAddr 0] [] f Q := rfl
theorem d2_0 : decode (pz_b 2) 0 = .ok (.iload_n 1, 1) := by decide +kernel
theorem q2_0 {dA : Nat → ClassId} {d : Nat} {st : List Value} {f : pz_F} {Q : Option Value → pz_F → Prop} {v0 v2 v3 : Value} {x : Int32} : pz_R dA d 2 0 [v0, .int x, v2, v3] st f Q = pz_R dA d 2 1 [v0, .int x, v2, v3] (.int x :: st) f Q := pz_go (pz_so d2_0 rfl)
theorem d2_1 : decode (pz_b 2) 1 = .ok (.invokestatic 53, 3) := by decide +kernel
theorem q2_1 {dA : Nat → ClassId} {d : Nat} {st : List Value} {f : pz_F} {Q : Option Value → pz_F → Prop} {v0 v1 v2 v3 : Value} {c0 : Int32} (hr : st.length ≤ 4) : pz_R dA (d + 1) 2 1 [v0, v1, v2, v3] (.int c0 :: st) f Q = pz_C dA d 16 [.int c0] f (fun r f' => pz_R dA (d + 1) 2 4 [v0, v1, v2, v3] (r.toList ++ st) f' Q) := pz_gcs (As := [.int c0]) d2_1 rfl rfl rfl hr
theorem d2_4 : decode (pz_b 2) 4 = .ok (.ifCond .eq 26, 3) := by decide +kernel
theorem q2_4 {dA : Nat → ClassId} {d : Nat} {st : List Value} {f : pz_F} {Q : Option Value → pz_F → Prop} {v0 v1 v2 v3 : Value} {x : Int32} : pz_R dA d 2 4 [v0, v1, v2, v3] (.int x :: st) f Q = (if x = 0 then pz_R dA d 2 30 [v0, v1, v2, v3] st f Q else pz_R dA d 2 7 [v0, v1, v2, v3] st f Q) := pz_gj1 .eq d2_4 rfl
theorem d2_7 : decode (pz_b 2) 7 = .ok (.iload_n 2, 1) := by decide +kernel
theorem q2_7 {dA : Nat → ClassId} {d : Nat} {st : List Value} {f : pz_F} {Q : Option Value → pz_F → Prop} {v0 v1 v3 : Value} {x : Int32} : pz_R dA d 2 7 [v0, v1, .int x, v3] st f Q = pz_R dA d 2 8 [v0, v1, .int x, v3] (.int x :: st) f Q := pz_go (pz_so d2_7 rfl)
theorem d2_8 : decode (pz_b 2) 8 = .ok (.invokestatic 57, 3) := by decide +kernel
theorem q2_8 {dA : Nat → ClassId} {d : Nat} {st : List Value} {f : pz_F} {Q : Option Value → pz_F → Prop} {v0 v1 v2 v3 : Value} {c0 : Int32} (hr : st.length ≤ 4) : pz_R dA (d + 1) 2 8 [v0, v1, v2, v3] (.int c0 :: st) f Q = pz_C dA d 15 [.int c0] f (fun r f' => pz_R dA (d + 1) 2 11 [v0, v1, v2, v3] (r.toList ++ st) f' Q) := pz_gcs (As := [.int c0]) d2_8 rfl rfl rfl hr
theorem d2_11 : decode (pz_b 2) 11 = .ok (.ifCond .eq 19, 3) := by decide +kernel
theorem q2_11 {dA : Nat → ClassId} {d : Nat} {st : List Value} {f : pz_F} {Q : Option Value → pz_F → Prop} {v0 v1 v2 v3 : Value} {x : Int32} : pz_R dA d 2 11 [v0, v1, v2, v3] (.int x :: st) f Q = (if x = 0 then pz_R dA d 2 30 [v0, v1, v2, v3] st f Q else pz_R dA d 2 14 [v0, v1, v2, v3] st f Q) := pz_gj1 .eq d2_11 rfl
theorem d2_14 : decode (pz_b 2) 14 = .ok (.aload_n 0, 1) := by decide +kernel
theorem q2_14 {dA : Nat → ClassId} {d : Nat} {st : List Value} {f : pz_F} {Q : Option Value → pz_F → Prop} {v1 v2 v3 : Value} {x : Nat} : pz_R dA d 2 14 [.ref x, v1, v2, v3] st f Q = pz_R dA d 2 15 [.ref x, v1, v2, v3] (.ref x :: st) f Q := pz_go (pz_so d2_14 rfl)
theorem d2_15 : decode (pz_b 2) 15 = .ok (.getfield 28, 3) := by decide +kernel
theorem q2_15 {dA : Nat → ClassId} {d : Nat} {st : List Value} {f : pz_F} {Q : Option Value → pz_F → Prop} {v0 v1 v2 v3 : Value} {a : Nat} : pz_R dA d 2 15 [v0, v1, v2, v3] (.ref a :: st) f Q = pz_o (pz_gf f a 0 3) (fun v => pz_R dA d 2 18 [v0, v1, v2, v3] (v :: st) f Q) := pz_gg d2_15 rfl
theorem d2_18 : decode (pz_b 2) 18 = .ok (.iload_n 1, 1) := by decide +kernel
theorem q2_18 {dA : Nat → ClassId} {d : Nat} {st : List Value} {f : pz_F} {Q : Option Value → pz_F → Prop} {v0 v2 v3 : Value} {x : Int32} : pz_R dA d 2 18 [v0, .int x, v2, v3] st f Q = pz_R dA d 2 19 [v0, .int x, v2, v3] (.int x :: st) f Q := pz_go (pz_so d2_18 rfl)
theorem d2_19 : decode (pz_b 2) 19 = .ok (.aaload, 1) := by decide +kernel
theorem q2_19 {dA : Nat → ClassId} {d : Nat} {st : List Value} {f : pz_F} {Q : Option Value → pz_F → Prop} {v0 v1 v2 v3 : Value} {i : Int32} {a : Nat} : pz_R dA d 2 19 [v0, v1, v2, v3] (.int i :: .ref a :: st) f Q = pz_o (pz_rl dA f a i) (fun v => pz_R dA d 2 20 [v0, v1, v2, v3] (v :: st) f Q) := pz_grl d2_19
theorem d2_20 : decode (pz_b 2) 20 = .ok (.aload_n 0, 1) := by decide +kernel
theorem q2_20 {dA : Nat → ClassId} {d : Nat} {st : List Value} {f : pz_F} {Q : Option Value → pz_F → Prop} {v1 v2 v3 : Value} {x : Nat} : pz_R dA d 2 20 [.ref x, v1, v2, v3] st f Q = pz_R dA d 2 21 [.ref x, v1, v2, v3] (.ref x :: st) f Q := pz_go (pz_so d2_20 rfl)
theorem d2_21 : decode (pz_b 2) 21 = .ok (.getfield 7, 3) := by decide +kernel
theorem q2_21 {dA : Nat → ClassId} {d : Nat} {st : List Value} {f : pz_F} {Q : Option Value → pz_F → Prop} {v0 v1 v2 v3 : Value} {a : Nat} : pz_R dA d 2 21 [v0, v1, v2, v3] (.ref a :: st) f Q = pz_o (pz_gf f a 0 0) (fun v => pz_R dA d 2 24 [v0, v1, v2, v3] (v :: st) f Q) := pz_gg d2_21 rfl
theorem d2_24 : decode (pz_b 2) 24 = .ok (.invokevirtual 60, 3) := by decide +kernel
theorem q2_24 {dA : Nat → ClassId} {d : Nat} {st : List Value} {f : pz_F} {Q : Option Value → pz_F → Prop} {v0 v1 v2 v3 : Value} {c0 : Int32} {b : Nat} (hr : st.length ≤ 4) : pz_R dA (d + 1) 2 24 [v0, v1, v2, v3] (.int c0 :: .ref b :: st) f Q = pz_o (pz_gu f b 3) (fun _ => pz_C dA d 65 [.ref b, .int c0] f (fun r f' => pz_R dA (d + 1) 2 27 [v0, v1, v2, v3] (r.toList ++ st) f' Q)) := pz_gcv (As := [.int c0]) d2_24 rfl rfl rfl hr
theorem d2_27 : decode (pz_b 2) 27 = .ok (.ifCond .eq 5, 3) := by decide +kernel
theorem q2_27 {dA : Nat → ClassId} {d : Nat} {st : List Value} {f : pz_F} {Q : Option Value → pz_F → Prop} {v0 v1 v2 v3 : Value} {x : Int32} : pz_R dA d 2 27 [v0, v1, v2, v3] (.int x :: st) f Q = (if x = 0 then pz_R dA d 2 32 [v0, v1, v2, v3] st f Q else pz_R dA d 2 30 [v0, v1, v2, v3] st f Q) := pz_gj1 .eq d2_27 rfl
theorem d2_30 : decode (pz_b 2) 30 = .ok (.iconst 0, 1) := by decide +kernel
theorem q2_30 {dA : Nat → ClassId} {d : Nat} {st : List Value} {f : pz_F} {Q : Option Value → pz_F → Prop} {v0 v1 v2 v3 : Value} : pz_R dA d 2 30 [v0, v1, v2, v3] st f Q = pz_R dA d 2 31 [v0, v1, v2, v3] (.int 0 :: st) f Q := pz_go (pz_so d2_30 rfl)
theorem d2_31 : decode (pz_b 2) 31 = .ok (.ireturn, 1) := by decide +kernel
theorem q2_31z {dA : Nat → ClassId} {d : Nat} {st : List Value} {f : pz_F} {Q : Option Value → pz_F → Prop} {v0 v1 v2 v3 : Value} : pz_R dA d 2 31 [v0, v1, v2, v3] [.int 0] f Q = Q (some (.int 0)) f := pz_gri d2_31 rfl rfl
theorem q2_31o {dA : Nat → ClassId} {d : Nat} {st : List Value} {f : pz_F} {Q : Option Value → pz_F → Prop} {v0 v1 v2 v3 : Value} : pz_R dA d 2 31 [v0, v1, v2, v3] [.int 1] f Q = Q (some (.int 1)) f := pz_gri d2_31 rfl rfl
theorem d2_32 : decode (pz_b 2) 32 = .ok (.aload_n 0, 1) := by decide +kernel
theorem q2_32 {dA : Nat → ClassId} {d : Nat} {st : List Value} {f : pz_F} {Q : Option Value → pz_F → Prop} {v1 v2 v3 : Value} {x : Nat} : pz_R dA d 2 32 [.ref x, v1, v2, v3] st f Q = pz_R dA d 2 33 [.ref x, v1, v2, v3] (.ref x :: st) f Q := pz_go (pz_so d2_32 rfl)
theorem d2_33 : decode (pz_b 2) 33 = .ok (.getfield 28, 3) := by decide +kernel
theorem q2_33 {dA : Nat → ClassId} {d : Nat} {st : List Value} {f : pz_F} {Q : Option Value → pz_F → Prop} {v0 v1 v2 v3 : Value} {a : Nat} : pz_R dA d 2 33 [v0, v1, v2, v3] (.ref a :: st) f Q = pz_o (pz_gf f a 0 3) (fun v => pz_R dA d 2 36 [v0, v1, v2, v3] (v :: st) f Q) := pz_gg d2_33 rfl
theorem d2_36 : decode (pz_b 2) 36 = .ok (.iload_n 1, 1) := by decide +kernel
theorem q2_36 {dA : Nat → ClassId} {d : Nat} {st : List Value} {f : pz_F} {Q : Option Value → pz_F → Prop} {v0 v2 v3 : Value} {x : Int32} : pz_R dA d 2 36 [v0, .int x, v2, v3] st f Q = pz_R dA d 2 37 [v0, .int x, v2, v3] (.int x :: st) f Q := pz_go (pz_so d2_36 rfl)
theorem d2_37 : decode (pz_b 2) 37 = .ok (.aaload, 1) := by decide +kernel
theorem q2_37 {dA : Nat → ClassId} {d : Nat} {st : List Value} {f : pz_F} {Q : Option Value → pz_F → Prop} {v0 v1 v2 v3 : Value} {i : Int32} {a : Nat} : pz_R dA d 2 37 [v0, v1, v2, v3] (.int i :: .ref a :: st) f Q = pz_o (pz_rl dA f a i) (fun v => pz_R dA d 2 38 [v0, v1, v2, v3] (v :: st) f Q) := pz_grl d2_37
theorem d2_38 : decode (pz_b 2) 38 = .ok (.astore_n 3, 1) := by decide +kernel
theorem q2_38 {dA : Nat → ClassId} {d : Nat} {st : List Value} {f : pz_F} {Q : Option Value → pz_F → Prop} {v0 v1 v2 v3 : Value} {x : Nat} : pz_R dA d 2 38 [v0, v1, v2, v3] (.ref x :: st) f Q = pz_R dA d 2 39 [v0, v1, v2, .ref x] st f Q := pz_go (pz_so d2_38 rfl)
theorem q2_38n {dA : Nat → ClassId} {d : Nat} {st : List Value} {f : pz_F} {Q : Option Value → pz_F → Prop} {v0 v1 v2 v3 : Value} : pz_R dA d 2 38 [v0, v1, v2, v3] (.null :: st) f Q = pz_R dA d 2 39 [v0, v1, v2, .null] st f Q := pz_go (pz_so d2_38 rfl)
theorem d2_39 : decode (pz_b 2) 39 = .ok (.aload_n 3, 1) := by decide +kernel
theorem q2_39 {dA : Nat → ClassId} {d : Nat} {st : List Value} {f : pz_F} {Q : Option Value → pz_F → Prop} {v0 v1 v2 : Value} {x : Nat} : pz_R dA d 2 39 [v0, v1, v2, .ref x] st f Q = pz_R dA d 2 40 [v0, v1, v2, .ref x] (.ref x :: st) f Q := pz_go (pz_so d2_39 rfl)
theorem q2_39n {dA : Nat → ClassId} {d : Nat} {st : List Value} {f : pz_F} {Q : Option Value → pz_F → Prop} {v0 v1 v2 : Value} : pz_R dA d 2 39 [v0, v1, v2, .null] st f Q = pz_R dA d 2 40 [v0, v1, v2, .null] (.null :: st) f Q := pz_go (pz_so d2_39 rfl)
theorem d2_40 : decode (pz_b 2) 40 = .ok (.dup, 1) := by decide +kernel
theorem q2_40 {dA : Nat → ClassId} {d : Nat} {st : List Value} {f : pz_F} {Q : Option Value → pz_F → Prop} {v0 v1 v2 v3 : Value} {x : Nat} : pz_R dA d 2 40 [v0, v1, v2, v3] (.ref x :: st) f Q = pz_R dA d 2 41 [v0, v1, v2, v3] (.ref x :: .ref x :: st) f Q := pz_go (pz_so d2_40 rfl)
theorem d2_41 : decode (pz_b 2) 41 = .ok (.getfield 63, 3) := by decide +kernel
theorem q2_41 {dA : Nat → ClassId} {d : Nat} {st : List Value} {f : pz_F} {Q : Option Value → pz_F → Prop} {v0 v1 v2 v3 : Value} {a : Nat} : pz_R dA d 2 41 [v0, v1, v2, v3] (.ref a :: st) f Q = pz_o (pz_gf f a 3 2) (fun v => pz_R dA d 2 44 [v0, v1, v2, v3] (v :: st) f Q) := pz_gg d2_41 rfl
theorem d2_44 : decode (pz_b 2) 44 = .ok (.iconst 1, 1) := by decide +kernel
theorem q2_44 {dA : Nat → ClassId} {d : Nat} {st : List Value} {f : pz_F} {Q : Option Value → pz_F → Prop} {v0 v1 v2 v3 : Value} : pz_R dA d 2 44 [v0, v1, v2, v3] st f Q = pz_R dA d 2 45 [v0, v1, v2, v3] (.int 1 :: st) f Q := pz_go (pz_so d2_44 rfl)
theorem d2_45 : decode (pz_b 2) 45 = .ok (.iadd, 1) := by decide +kernel
theorem q2_45 {dA : Nat → ClassId} {d : Nat} {st : List Value} {f : pz_F} {Q : Option Value → pz_F → Prop} {v0 v1 v2 v3 : Value} {x y : Int32} : pz_R dA d 2 45 [v0, v1, v2, v3] (.int y :: .int x :: st) f Q = pz_R dA d 2 46 [v0, v1, v2, v3] (.int (x + y) :: st) f Q := pz_go (pz_so d2_45 rfl)
theorem d2_46 : decode (pz_b 2) 46 = .ok (.putfield 63, 3) := by decide +kernel
theorem q2_46 {dA : Nat → ClassId} {d : Nat} {st : List Value} {f : pz_F} {Q : Option Value → pz_F → Prop} {v0 v1 v2 v3 : Value} {x : Int32} {a : Nat} : pz_R dA d 2 46 [v0, v1, v2, v3] (.int x :: .ref a :: st) f Q = pz_o (pz_pf f a 3 2 (.int x)) (fun f' => pz_R dA d 2 49 [v0, v1, v2, v3] st f' Q) := pz_gp d2_46 rfl rfl rfl rfl
theorem d2_49 : decode (pz_b 2) 49 = .ok (.aload_n 3, 1) := by decide +kernel
theorem q2_49 {dA : Nat → ClassId} {d : Nat} {st : List Value} {f : pz_F} {Q : Option Value → pz_F → Prop} {v0 v1 v2 : Value} {x : Nat} : pz_R dA d 2 49 [v0, v1, v2, .ref x] st f Q = pz_R dA d 2 50 [v0, v1, v2, .ref x] (.ref x :: st) f Q := pz_go (pz_so d2_49 rfl)
theorem q2_49n {dA : Nat → ClassId} {d : Nat} {st : List Value} {f : pz_F} {Q : Option Value → pz_F → Prop} {v0 v1 v2 : Value} : pz_R dA d 2 49 [v0, v1, v2, .null] st f Q = pz_R dA d 2 50 [v0, v1, v2, .null] (.null :: st) f Q := pz_go (pz_so d2_49 rfl)
theorem d2_50 : decode (pz_b 2) 50 = .ok (.iconst 1, 1) := by decide +kernel
theorem q2_50 {dA : Nat → ClassId} {d : Nat} {st : List Value} {f : pz_F} {Q : Option Value → pz_F → Prop} {v0 v1 v2 v3 : Value} : pz_R dA d 2 50 [v0, v1, v2, v3] st f Q = pz_R dA d 2 51 [v0, v1, v2, v3] (.int 1 :: st) f Q := pz_go (pz_so d2_50 rfl)
theorem d2_51 : decode (pz_b 2) 51 = .ok (.putfield 66, 3) := by decide +kernel
theorem q2_51z {dA : Nat → ClassId} {d : Nat} {st : List Value} {f : pz_F} {Q : Option Value → pz_F → Prop} {v0 v1 v2 v3 : Value} {a : Nat} : pz_R dA d 2 51 [v0, v1, v2, v3] (.int 0 :: .ref a :: st) f Q = pz_o (pz_pf f a 3 3 (.int 0)) (fun f' => pz_R dA d 2 54 [v0, v1, v2, v3] st f' Q) := pz_gp d2_51 rfl rfl rfl rfl
theorem q2_51o {dA : Nat → ClassId} {d : Nat} {st : List Value} {f : pz_F} {Q : Option Value → pz_F → Prop} {v0 v1 v2 v3 : Value} {a : Nat} : pz_R dA d 2 51 [v0, v1, v2, v3] (.int 1 :: .ref a :: st) f Q = pz_o (pz_pf f a 3 3 (.int 1)) (fun f' => pz_R dA d 2 54 [v0, v1, v2, v3] st f' Q) := pz_gp d2_51 rfl rfl rfl rfl
theorem d2_54 : decode (pz_b 2) 54 = .ok (.aload_n 0, 1) := by decide +kernel
theorem q2_54 {dA : Nat → ClassId} {d : Nat} {st : List Value} {f : pz_F} {Q : Option Value → pz_F → Prop} {v1 v2 v3 : Value} {x : Nat} : pz_R dA d 2 54 [.ref x, v1, v2, v3] st f Q = pz_R dA d 2 55 [.ref x, v1, v2, v3] (.ref x :: st) f Q := pz_go (pz_so d2_54 rfl)
theorem d2_55 : decode (pz_b 2) 55 = .ok (.iconst 0, 1) := by decide +kernel
theorem q2_55 {dA : Nat → ClassId} {d : Nat} {st : List Value} {f : pz_F} {Q : Option Value → pz_F → Prop} {v0 v1 v2 v3 : Value} : pz_R dA d 2 55 [v0, v1, v2, v3] st f Q = pz_R dA d 2 56 [v0, v1, v2, v3] (.int 0 :: st) f Q := pz_go (pz_so d2_55 rfl)
theorem d2_56 : decode (pz_b 2) 56 = .ok (.iload_n 1, 1) := by decide +kernel
theorem q2_56 {dA : Nat → ClassId} {d : Nat} {st : List Value} {f : pz_F} {Q : Option Value → pz_F → Prop} {v0 v2 v3 : Value} {x : Int32} : pz_R dA d 2 56 [v0, .int x, v2, v3] st f Q = pz_R dA d 2 57 [v0, .int x, v2, v3] (.int x :: st) f Q := pz_go (pz_so d2_56 rfl)
theorem d2_57 : decode (pz_b 2) 57 = .ok (.iload_n 2, 1) := by decide +kernel
theorem q2_57 {dA : Nat → ClassId} {d : Nat} {st : List Value} {f : pz_F} {Q : Option Value → pz_F → Prop} {v0 v1 v3 : Value} {x : Int32} : pz_R dA d 2 57 [v0, v1, .int x, v3] st f Q = pz_R dA d 2 58 [v0, v1, .int x, v3] (.int x :: st) f Q := pz_go (pz_so d2_57 rfl)
theorem d2_58 : decode (pz_b 2) 58 = .ok (.aload_n 3, 1) := by decide +kernel
theorem q2_58 {dA : Nat → ClassId} {d : Nat} {st : List Value} {f : pz_F} {Q : Option Value → pz_F → Prop} {v0 v1 v2 : Value} {x : Nat} : pz_R dA d 2 58 [v0, v1, v2, .ref x] st f Q = pz_R dA d 2 59 [v0, v1, v2, .ref x] (.ref x :: st) f Q := pz_go (pz_so d2_58 rfl)
theorem q2_58n {dA : Nat → ClassId} {d : Nat} {st : List Value} {f : pz_F} {Q : Option Value → pz_F → Prop} {v0 v1 v2 : Value} : pz_R dA d 2 58 [v0, v1, v2, .null] st f Q = pz_R dA d 2 59 [v0, v1, v2, .null] (.null :: st) f Q := pz_go (pz_so d2_58 rfl)
theorem d2_59 : decode (pz_b 2) 59 = .ok (.getfield 63, 3) := by decide +kernel
theorem q2_59 {dA : Nat → ClassId} {d : Nat} {st : List Value} {f : pz_F} {Q : Option Value → pz_F → Prop} {v0 v1 v2 v3 : Value} {a : Nat} : pz_R dA d 2 59 [v0, v1, v2, v3] (.ref a :: st) f Q = pz_o (pz_gf f a 3 2) (fun v => pz_R dA d 2 62 [v0, v1, v2, v3] (v :: st) f Q) := pz_gg d2_59 rfl
theorem d2_62 : decode (pz_b 2) 62 = .ok (.invokevirtual 69, 3) := by decide +kernel
theorem q2_62 {dA : Nat → ClassId} {d : Nat} {st : List Value} {f : pz_F} {Q : Option Value → pz_F → Prop} {v0 v1 v2 v3 : Value} {c0 : Int32} {c1 : Int32} {c2 : Int32} {c3 : Int32} {b : Nat} (hr : st.length ≤ 4) : pz_R dA (d + 1) 2 62 [v0, v1, v2, v3] (.int c3 :: .int c2 :: .int c1 :: .int c0 :: .ref b :: st) f Q = pz_o (pz_gu f b 0) (fun _ => pz_C dA d 25 [.ref b, .int c0, .int c1, .int c2, .int c3] f (fun r f' => pz_R dA (d + 1) 2 65 [v0, v1, v2, v3] (r.toList ++ st) f' Q)) := pz_gcv (As := [.int c0, .int c1, .int c2, .int c3]) d2_62 rfl rfl rfl hr
theorem d2_65 : decode (pz_b 2) 65 = .ok (.iconst 1, 1) := by decide +kernel
theorem q2_65 {dA : Nat → ClassId} {d : Nat} {st : List Value} {f : pz_F} {Q : Option Value → pz_F → Prop} {v0 v1 v2 v3 : Value} : pz_R dA d 2 65 [v0, v1, v2, v3] st f Q = pz_R dA d 2 66 [v0, v1, v2, v3] (.int 1 :: st) f Q := pz_go (pz_so d2_65 rfl)
theorem d2_66 : decode (pz_b 2) 66 = .ok (.ireturn, 1) := by decide +kernel
theorem q2_66z {dA : Nat → ClassId} {d : Nat} {st : List Value} {f : pz_F} {Q : Option Value → pz_F → Prop} {v0 v1 v2 v3 : Value} : pz_R dA d 2 66 [v0, v1, v2, v3] [.int 0] f Q = Q (some (.int 0)) f := pz_gri d2_66 rfl rfl
theorem q2_66o {dA : Nat → ClassId} {d : Nat} {st : List Value} {f : pz_F} {Q : Option Value → pz_F → Prop} {v0 v1 v2 v3 : Value} : pz_R dA d 2 66 [v0, v1, v2, v3] [.int 1] f Q = Q (some (.int 1)) f := pz_gri d2_66 rfl rfl
/-! P_release (II)Z -/
theorem e3 {dA : Nat → ClassId} {d : Nat} {f : pz_F} {Q : Option Value → pz_F → Prop} {a0 : Nat} {a1 : Int32} {a2 : Int32} : pz_C dA d 3 [.ref a0, .int a1, .int a2] f Q = pz_R dA d 3 0 [.ref a0, .int a1, .int a2, .retAddr 0, .retAddr 0] [] f Q := rfl
theorem d3_0 : decode (pz_b 3) 0 = .ok (.iload_n 1, 1) := by decide +kernel
theorem q3_0 {dA : Nat → ClassId} {d : Nat} {st : List Value} {f : pz_F} {Q : Option Value → pz_F → Prop} {v0 v2 v3 v4 : Value} {x : Int32} : pz_R dA d 3 0 [v0, .int x, v2, v3, v4] st f Q = pz_R dA d 3 1 [v0, .int x, v2, v3, v4] (.int x :: st) f Q := pz_go (pz_so d3_0 rfl)
theorem d3_1 : decode (pz_b 3) 1 = .ok (.invokestatic 53, 3) := by decide +kernel
theorem q3_1 {dA : Nat → ClassId} {d : Nat} {st : List Value} {f : pz_F} {Q : Option Value → pz_F → Prop} {v0 v1 v2 v3 v4 : Value} {c0 : Int32} (hr : st.length ≤ 4) : pz_R dA (d + 1) 3 1 [v0, v1, v2, v3, v4] (.int c0 :: st) f Q = pz_C dA d 16 [.int c0] f (fun r f' => pz_R dA (d + 1) 3 4 [v0, v1, v2, v3, v4] (r.toList ++ st) f' Q) := pz_gcs (As := [.int c0]) d3_1 rfl rfl rfl hr
theorem d3_4 : decode (pz_b 3) 4 = .ok (.ifCond .eq 23, 3) := by decide +kernel
theorem q3_4 {dA : Nat → ClassId} {d : Nat} {st : List Value} {f : pz_F} {Q : Option Value → pz_F → Prop} {v0 v1 v2 v3 v4 : Value} {x : Int32} : pz_R dA d 3 4 [v0, v1, v2, v3, v4] (.int x :: st) f Q = (if x = 0 then pz_R dA d 3 27 [v0, v1, v2, v3, v4] st f Q else pz_R dA d 3 7 [v0, v1, v2, v3, v4] st f Q) := pz_gj1 .eq d3_4 rfl
theorem d3_7 : decode (pz_b 3) 7 = .ok (.iload_n 2, 1) := by decide +kernel
theorem q3_7 {dA : Nat → ClassId} {d : Nat} {st : List Value} {f : pz_F} {Q : Option Value → pz_F → Prop} {v0 v1 v3 v4 : Value} {x : Int32} : pz_R dA d 3 7 [v0, v1, .int x, v3, v4] st f Q = pz_R dA d 3 8 [v0, v1, .int x, v3, v4] (.int x :: st) f Q := pz_go (pz_so d3_7 rfl)
theorem d3_8 : decode (pz_b 3) 8 = .ok (.invokestatic 57, 3) := by decide +kernel
theorem q3_8 {dA : Nat → ClassId} {d : Nat} {st : List Value} {f : pz_F} {Q : Option Value → pz_F → Prop} {v0 v1 v2 v3 v4 : Value} {c0 : Int32} (hr : st.length ≤ 4) : pz_R dA (d + 1) 3 8 [v0, v1, v2, v3, v4] (.int c0 :: st) f Q = pz_C dA d 15 [.int c0] f (fun r f' => pz_R dA (d + 1) 3 11 [v0, v1, v2, v3, v4] (r.toList ++ st) f' Q) := pz_gcs (As := [.int c0]) d3_8 rfl rfl rfl hr
theorem d3_11 : decode (pz_b 3) 11 = .ok (.ifCond .eq 16, 3) := by decide +kernel
theorem q3_11 {dA : Nat → ClassId} {d : Nat} {st : List Value} {f : pz_F} {Q : Option Value → pz_F → Prop} {v0 v1 v2 v3 v4 : Value} {x : Int32} : pz_R dA d 3 11 [v0, v1, v2, v3, v4] (.int x :: st) f Q = (if x = 0 then pz_R dA d 3 27 [v0, v1, v2, v3, v4] st f Q else pz_R dA d 3 14 [v0, v1, v2, v3, v4] st f Q) := pz_gj1 .eq d3_11 rfl
theorem d3_14 : decode (pz_b 3) 14 = .ok (.aload_n 0, 1) := by decide +kernel
theorem q3_14 {dA : Nat → ClassId} {d : Nat} {st : List Value} {f : pz_F} {Q : Option Value → pz_F → Prop} {v1 v2 v3 v4 : Value} {x : Nat} : pz_R dA d 3 14 [.ref x, v1, v2, v3, v4] st f Q = pz_R dA d 3 15 [.ref x, v1, v2, v3, v4] (.ref x :: st) f Q := pz_go (pz_so d3_14 rfl)
theorem d3_15 : decode (pz_b 3) 15 = .ok (.getfield 28, 3) := by decide +kernel
theorem q3_15 {dA : Nat → ClassId} {d : Nat} {st : List Value} {f : pz_F} {Q : Option Value → pz_F → Prop} {v0 v1 v2 v3 v4 : Value} {a : Nat} : pz_R dA d 3 15 [v0, v1, v2, v3, v4] (.ref a :: st) f Q = pz_o (pz_gf f a 0 3) (fun v => pz_R dA d 3 18 [v0, v1, v2, v3, v4] (v :: st) f Q) := pz_gg d3_15 rfl
theorem d3_18 : decode (pz_b 3) 18 = .ok (.iload_n 1, 1) := by decide +kernel
theorem q3_18 {dA : Nat → ClassId} {d : Nat} {st : List Value} {f : pz_F} {Q : Option Value → pz_F → Prop} {v0 v2 v3 v4 : Value} {x : Int32} : pz_R dA d 3 18 [v0, .int x, v2, v3, v4] st f Q = pz_R dA d 3 19 [v0, .int x, v2, v3, v4] (.int x :: st) f Q := pz_go (pz_so d3_18 rfl)
theorem d3_19 : decode (pz_b 3) 19 = .ok (.aaload, 1) := by decide +kernel
theorem q3_19 {dA : Nat → ClassId} {d : Nat} {st : List Value} {f : pz_F} {Q : Option Value → pz_F → Prop} {v0 v1 v2 v3 v4 : Value} {i : Int32} {a : Nat} : pz_R dA d 3 19 [v0, v1, v2, v3, v4] (.int i :: .ref a :: st) f Q = pz_o (pz_rl dA f a i) (fun v => pz_R dA d 3 20 [v0, v1, v2, v3, v4] (v :: st) f Q) := pz_grl d3_19
theorem d3_20 : decode (pz_b 3) 20 = .ok (.getfield 73, 3) := by decide +kernel
theorem q3_20 {dA : Nat → ClassId} {d : Nat} {st : List Value} {f : pz_F} {Q : Option Value → pz_F → Prop} {v0 v1 v2 v3 v4 : Value} {a : Nat} : pz_R dA d 3 20 [v0, v1, v2, v3, v4] (.ref a :: st) f Q = pz_o (pz_gf f a 3 0) (fun v => pz_R dA d 3 23 [v0, v1, v2, v3, v4] (v :: st) f Q) := pz_gg d3_20 rfl
theorem d3_23 : decode (pz_b 3) 23 = .ok (.iconst (-1), 1) := by decide +kernel
theorem q3_23 {dA : Nat → ClassId} {d : Nat} {st : List Value} {f : pz_F} {Q : Option Value → pz_F → Prop} {v0 v1 v2 v3 v4 : Value} : pz_R dA d 3 23 [v0, v1, v2, v3, v4] st f Q = pz_R dA d 3 24 [v0, v1, v2, v3, v4] (.int (-1) :: st) f Q := pz_go (pz_so d3_23 rfl)
theorem d3_24 : decode (pz_b 3) 24 = .ok (.if_icmp .ne 5, 3) := by decide +kernel
theorem q3_24 {dA : Nat → ClassId} {d : Nat} {st : List Value} {f : pz_F} {Q : Option Value → pz_F → Prop} {v0 v1 v2 v3 v4 : Value} {x y : Int32} : pz_R dA d 3 24 [v0, v1, v2, v3, v4] (.int y :: .int x :: st) f Q = (if x = y then pz_R dA d 3 27 [v0, v1, v2, v3, v4] st f Q else pz_R dA d 3 29 [v0, v1, v2, v3, v4] st f Q) := pz_gjn .ne d3_24 rfl
theorem d3_27 : decode (pz_b 3) 27 = .ok (.iconst 0, 1) := by decide +kernel
theorem q3_27 {dA : Nat → ClassId} {d : Nat} {st : List Value} {f : pz_F} {Q : Option Value → pz_F → Prop} {v0 v1 v2 v3 v4 : Value} : pz_R dA d 3 27 [v0, v1, v2, v3, v4] st f Q = pz_R dA d 3 28 [v0, v1, v2, v3, v4] (.int 0 :: st) f Q := pz_go (pz_so d3_27 rfl)
theorem d3_28 : decode (pz_b 3) 28 = .ok (.ireturn, 1) := by decide +kernel
theorem q3_28z {dA : Nat → ClassId} {d : Nat} {st : List Value} {f : pz_F} {Q : Option Value → pz_F → Prop} {v0 v1 v2 v3 v4 : Value} : pz_R dA d 3 28 [v0, v1, v2, v3, v4] [.int 0] f Q = Q (some (.int 0)) f := pz_gri d3_28 rfl rfl
theorem q3_28o {dA : Nat → ClassId} {d : Nat} {st : List Value} {f : pz_F} {Q : Option Value → pz_F → Prop} {v0 v1 v2 v3 v4 : Value} : pz_R dA d 3 28 [v0, v1, v2, v3, v4] [.int 1] f Q = Q (some (.int 1)) f := pz_gri d3_28 rfl rfl
theorem d3_29 : decode (pz_b 3) 29 = .ok (.aload_n 0, 1) := by decide +kernel
theorem q3_29 {dA : Nat → ClassId} {d : Nat} {st : List Value} {f : pz_F} {Q : Option Value → pz_F → Prop} {v1 v2 v3 v4 : Value} {x : Nat} : pz_R dA d 3 29 [.ref x, v1, v2, v3, v4] st f Q = pz_R dA d 3 30 [.ref x, v1, v2, v3, v4] (.ref x :: st) f Q := pz_go (pz_so d3_29 rfl)
theorem d3_30 : decode (pz_b 3) 30 = .ok (.getfield 28, 3) := by decide +kernel
theorem q3_30 {dA : Nat → ClassId} {d : Nat} {st : List Value} {f : pz_F} {Q : Option Value → pz_F → Prop} {v0 v1 v2 v3 v4 : Value} {a : Nat} : pz_R dA d 3 30 [v0, v1, v2, v3, v4] (.ref a :: st) f Q = pz_o (pz_gf f a 0 3) (fun v => pz_R dA d 3 33 [v0, v1, v2, v3, v4] (v :: st) f Q) := pz_gg d3_30 rfl
theorem d3_33 : decode (pz_b 3) 33 = .ok (.iload_n 1, 1) := by decide +kernel
theorem q3_33 {dA : Nat → ClassId} {d : Nat} {st : List Value} {f : pz_F} {Q : Option Value → pz_F → Prop} {v0 v2 v3 v4 : Value} {x : Int32} : pz_R dA d 3 33 [v0, .int x, v2, v3, v4] st f Q = pz_R dA d 3 34 [v0, .int x, v2, v3, v4] (.int x :: st) f Q := pz_go (pz_so d3_33 rfl)
theorem d3_34 : decode (pz_b 3) 34 = .ok (.aaload, 1) := by decide +kernel
theorem q3_34 {dA : Nat → ClassId} {d : Nat} {st : List Value} {f : pz_F} {Q : Option Value → pz_F → Prop} {v0 v1 v2 v3 v4 : Value} {i : Int32} {a : Nat} : pz_R dA d 3 34 [v0, v1, v2, v3, v4] (.int i :: .ref a :: st) f Q = pz_o (pz_rl dA f a i) (fun v => pz_R dA d 3 35 [v0, v1, v2, v3, v4] (v :: st) f Q) := pz_grl d3_34
theorem d3_35 : decode (pz_b 3) 35 = .ok (.astore_n 3, 1) := by decide +kernel
theorem q3_35 {dA : Nat → ClassId} {d : Nat} {st : List Value} {f : pz_F} {Q : Option Value → pz_F → Prop} {v0 v1 v2 v3 v4 : Value} {x : Nat} : pz_R dA d 3 35 [v0, v1, v2, v3, v4] (.ref x :: st) f Q = pz_R dA d 3 36 [v0, v1, v2, .ref x, v4] st f Q := pz_go (pz_so d3_35 rfl)
theorem q3_35n {dA : Nat → ClassId} {d : Nat} {st : List Value} {f : pz_F} {Q : Option Value → pz_F → Prop} {v0 v1 v2 v3 v4 : Value} : pz_R dA d 3 35 [v0, v1, v2, v3, v4] (.null :: st) f Q = pz_R dA d 3 36 [v0, v1, v2, .null, v4] st f Q := pz_go (pz_so d3_35 rfl)
theorem d3_36 : decode (pz_b 3) 36 = .ok (.aload_n 0, 1) := by decide +kernel
theorem q3_36 {dA : Nat → ClassId} {d : Nat} {st : List Value} {f : pz_F} {Q : Option Value → pz_F → Prop} {v1 v2 v3 v4 : Value} {x : Nat} : pz_R dA d 3 36 [.ref x, v1, v2, v3, v4] st f Q = pz_R dA d 3 37 [.ref x, v1, v2, v3, v4] (.ref x :: st) f Q := pz_go (pz_so d3_36 rfl)
theorem d3_37 : decode (pz_b 3) 37 = .ok (.getfield 36, 3) := by decide +kernel
theorem q3_37 {dA : Nat → ClassId} {d : Nat} {st : List Value} {f : pz_F} {Q : Option Value → pz_F → Prop} {v0 v1 v2 v3 v4 : Value} {a : Nat} : pz_R dA d 3 37 [v0, v1, v2, v3, v4] (.ref a :: st) f Q = pz_o (pz_gf f a 0 4) (fun v => pz_R dA d 3 40 [v0, v1, v2, v3, v4] (v :: st) f Q) := pz_gg d3_37 rfl
theorem d3_40 : decode (pz_b 3) 40 = .ok (.iconst 3, 1) := by decide +kernel
theorem q3_40 {dA : Nat → ClassId} {d : Nat} {st : List Value} {f : pz_F} {Q : Option Value → pz_F → Prop} {v0 v1 v2 v3 v4 : Value} : pz_R dA d 3 40 [v0, v1, v2, v3, v4] st f Q = pz_R dA d 3 41 [v0, v1, v2, v3, v4] (.int 3 :: st) f Q := pz_go (pz_so d3_40 rfl)
theorem d3_41 : decode (pz_b 3) 41 = .ok (.iload_n 1, 1) := by decide +kernel
theorem q3_41 {dA : Nat → ClassId} {d : Nat} {st : List Value} {f : pz_F} {Q : Option Value → pz_F → Prop} {v0 v2 v3 v4 : Value} {x : Int32} : pz_R dA d 3 41 [v0, .int x, v2, v3, v4] st f Q = pz_R dA d 3 42 [v0, .int x, v2, v3, v4] (.int x :: st) f Q := pz_go (pz_so d3_41 rfl)
theorem d3_42 : decode (pz_b 3) 42 = .ok (.iload_n 2, 1) := by decide +kernel
theorem q3_42 {dA : Nat → ClassId} {d : Nat} {st : List Value} {f : pz_F} {Q : Option Value → pz_F → Prop} {v0 v1 v3 v4 : Value} {x : Int32} : pz_R dA d 3 42 [v0, v1, .int x, v3, v4] st f Q = pz_R dA d 3 43 [v0, v1, .int x, v3, v4] (.int x :: st) f Q := pz_go (pz_so d3_42 rfl)
theorem d3_43 : decode (pz_b 3) 43 = .ok (.aload_n 0, 1) := by decide +kernel
theorem q3_43 {dA : Nat → ClassId} {d : Nat} {st : List Value} {f : pz_F} {Q : Option Value → pz_F → Prop} {v1 v2 v3 v4 : Value} {x : Nat} : pz_R dA d 3 43 [.ref x, v1, v2, v3, v4] st f Q = pz_R dA d 3 44 [.ref x, v1, v2, v3, v4] (.ref x :: st) f Q := pz_go (pz_so d3_43 rfl)
theorem d3_44 : decode (pz_b 3) 44 = .ok (.getfield 7, 3) := by decide +kernel
theorem q3_44 {dA : Nat → ClassId} {d : Nat} {st : List Value} {f : pz_F} {Q : Option Value → pz_F → Prop} {v0 v1 v2 v3 v4 : Value} {a : Nat} : pz_R dA d 3 44 [v0, v1, v2, v3, v4] (.ref a :: st) f Q = pz_o (pz_gf f a 0 0) (fun v => pz_R dA d 3 47 [v0, v1, v2, v3, v4] (v :: st) f Q) := pz_gg d3_44 rfl
theorem d3_47 : decode (pz_b 3) 47 = .ok (.invokevirtual 76, 3) := by decide +kernel
theorem q3_47 {dA : Nat → ClassId} {d : Nat} {st : List Value} {f : pz_F} {Q : Option Value → pz_F → Prop} {v0 v1 v2 v3 v4 : Value} {c0 : Int32} {c1 : Int32} {c2 : Int32} {c3 : Int32} {b : Nat} (hr : st.length ≤ 4) : pz_R dA (d + 1) 3 47 [v0, v1, v2, v3, v4] (.int c3 :: .int c2 :: .int c1 :: .int c0 :: .ref b :: st) f Q = pz_o (pz_gu f b 4) (fun _ => pz_C dA d 74 [.ref b, .int c0, .int c1, .int c2, .int c3] f (fun r f' => pz_R dA (d + 1) 3 50 [v0, v1, v2, v3, v4] (r.toList ++ st) f' Q)) := pz_gcv (As := [.int c0, .int c1, .int c2, .int c3]) d3_47 rfl rfl rfl hr
theorem d3_50 : decode (pz_b 3) 50 = .ok (.astore 4, 2) := by decide +kernel
theorem q3_50 {dA : Nat → ClassId} {d : Nat} {st : List Value} {f : pz_F} {Q : Option Value → pz_F → Prop} {v0 v1 v2 v3 v4 : Value} {x : Nat} : pz_R dA d 3 50 [v0, v1, v2, v3, v4] (.ref x :: st) f Q = pz_R dA d 3 52 [v0, v1, v2, v3, .ref x] st f Q := pz_go (pz_so d3_50 rfl)
theorem q3_50n {dA : Nat → ClassId} {d : Nat} {st : List Value} {f : pz_F} {Q : Option Value → pz_F → Prop} {v0 v1 v2 v3 v4 : Value} : pz_R dA d 3 50 [v0, v1, v2, v3, v4] (.null :: st) f Q = pz_R dA d 3 52 [v0, v1, v2, v3, .null] st f Q := pz_go (pz_so d3_50 rfl)
theorem d3_52 : decode (pz_b 3) 52 = .ok (.aload 4, 2) := by decide +kernel
theorem q3_52 {dA : Nat → ClassId} {d : Nat} {st : List Value} {f : pz_F} {Q : Option Value → pz_F → Prop} {v0 v1 v2 v3 : Value} {x : Nat} : pz_R dA d 3 52 [v0, v1, v2, v3, .ref x] st f Q = pz_R dA d 3 54 [v0, v1, v2, v3, .ref x] (.ref x :: st) f Q := pz_go (pz_so d3_52 rfl)
theorem q3_52n {dA : Nat → ClassId} {d : Nat} {st : List Value} {f : pz_F} {Q : Option Value → pz_F → Prop} {v0 v1 v2 v3 : Value} : pz_R dA d 3 52 [v0, v1, v2, v3, .null] st f Q = pz_R dA d 3 54 [v0, v1, v2, v3, .null] (.null :: st) f Q := pz_go (pz_so d3_52 rfl)
theorem d3_54 : decode (pz_b 3) 54 = .ok (.ifnull 12, 3) := by decide +kernel
theorem q3_54 {dA : Nat → ClassId} {d : Nat} {st : List Value} {f : pz_F} {Q : Option Value → pz_F → Prop} {v0 v1 v2 v3 v4 : Value} {x : Nat} : pz_R dA d 3 54 [v0, v1, v2, v3, v4] (.ref x :: st) f Q = pz_R dA d 3 57 [v0, v1, v2, v3, v4] st f Q := pz_go (pz_so d3_54 rfl)
theorem q3_54n {dA : Nat → ClassId} {d : Nat} {st : List Value} {f : pz_F} {Q : Option Value → pz_F → Prop} {v0 v1 v2 v3 v4 : Value} : pz_R dA d 3 54 [v0, v1, v2, v3, v4] (.null :: st) f Q = pz_R dA d 3 66 [v0, v1, v2, v3, v4] st f Q := pz_go (pz_so d3_54 rfl)
theorem d3_57 : decode (pz_b 3) 57 = .ok (.aload 4, 2) := by decide +kernel
theorem q3_57 {dA : Nat → ClassId} {d : Nat} {st : List Value} {f : pz_F} {Q : Option Value → pz_F → Prop} {v0 v1 v2 v3 : Value} {x : Nat} : pz_R dA d 3 57 [v0, v1, v2, v3, .ref x] st f Q = pz_R dA d 3 59 [v0, v1, v2, v3, .ref x] (.ref x :: st) f Q := pz_go (pz_so d3_57 rfl)
theorem q3_57n {dA : Nat → ClassId} {d : Nat} {st : List Value} {f : pz_F} {Q : Option Value → pz_F → Prop} {v0 v1 v2 v3 : Value} : pz_R dA d 3 57 [v0, v1, v2, v3, .null] st f Q = pz_R dA d 3 59 [v0, v1, v2, v3, .null] (.null :: st) f Q := pz_go (pz_so d3_57 rfl)
theorem d3_59 : decode (pz_b 3) 59 = .ok (.aload_n 3, 1) := by decide +kernel
theorem q3_59 {dA : Nat → ClassId} {d : Nat} {st : List Value} {f : pz_F} {Q : Option Value → pz_F → Prop} {v0 v1 v2 v4 : Value} {x : Nat} : pz_R dA d 3 59 [v0, v1, v2, .ref x, v4] st f Q = pz_R dA d 3 60 [v0, v1, v2, .ref x, v4] (.ref x :: st) f Q := pz_go (pz_so d3_59 rfl)
theorem q3_59n {dA : Nat → ClassId} {d : Nat} {st : List Value} {f : pz_F} {Q : Option Value → pz_F → Prop} {v0 v1 v2 v4 : Value} : pz_R dA d 3 59 [v0, v1, v2, .null, v4] st f Q = pz_R dA d 3 60 [v0, v1, v2, .null, v4] (.null :: st) f Q := pz_go (pz_so d3_59 rfl)
theorem d3_60 : decode (pz_b 3) 60 = .ok (.getfield 73, 3) := by decide +kernel
theorem q3_60 {dA : Nat → ClassId} {d : Nat} {st : List Value} {f : pz_F} {Q : Option Value → pz_F → Prop} {v0 v1 v2 v3 v4 : Value} {a : Nat} : pz_R dA d 3 60 [v0, v1, v2, v3, v4] (.ref a :: st) f Q = pz_o (pz_gf f a 3 0) (fun v => pz_R dA d 3 63 [v0, v1, v2, v3, v4] (v :: st) f Q) := pz_gg d3_60 rfl
theorem d3_63 : decode (pz_b 3) 63 = .ok (.putfield 80, 3) := by decide +kernel
theorem q3_63 {dA : Nat → ClassId} {d : Nat} {st : List Value} {f : pz_F} {Q : Option Value → pz_F → Prop} {v0 v1 v2 v3 v4 : Value} {x : Int32} {a : Nat} : pz_R dA d 3 63 [v0, v1, v2, v3, v4] (.int x :: .ref a :: st) f Q = pz_o (pz_pf f a 5 5 (.int x)) (fun f' => pz_R dA d 3 66 [v0, v1, v2, v3, v4] st f' Q) := pz_gp d3_63 rfl rfl rfl rfl
theorem d3_66 : decode (pz_b 3) 66 = .ok (.aload_n 3, 1) := by decide +kernel
theorem q3_66 {dA : Nat → ClassId} {d : Nat} {st : List Value} {f : pz_F} {Q : Option Value → pz_F → Prop} {v0 v1 v2 v4 : Value} {x : Nat} : pz_R dA d 3 66 [v0, v1, v2, .ref x, v4] st f Q = pz_R dA d 3 67 [v0, v1, v2, .ref x, v4] (.ref x :: st) f Q := pz_go (pz_so d3_66 rfl)
theorem q3_66n {dA : Nat → ClassId} {d : Nat} {st : List Value} {f : pz_F} {Q : Option Value → pz_F → Prop} {v0 v1 v2 v4 : Value} : pz_R dA d 3 66 [v0, v1, v2, .null, v4] st f Q = pz_R dA d 3 67 [v0, v1, v2, .null, v4] (.null :: st) f Q := pz_go (pz_so d3_66 rfl)
theorem d3_67 : decode (pz_b 3) 67 = .ok (.invokevirtual 83, 3) := by decide +kernel
theorem q3_67 {dA : Nat → ClassId} {d : Nat} {st : List Value} {f : pz_F} {Q : Option Value → pz_F → Prop} {v0 v1 v2 v3 v4 : Value} {b : Nat} (hr : st.length ≤ 4) : pz_R dA (d + 1) 3 67 [v0, v1, v2, v3, v4] (.ref b :: st) f Q = pz_o (pz_gu f b 3) (fun _ => pz_C dA d 66 [.ref b] f (fun r f' => pz_R dA (d + 1) 3 70 [v0, v1, v2, v3, v4] (r.toList ++ st) f' Q)) := pz_gcv (As := []) d3_67 rfl rfl rfl hr
theorem d3_70 : decode (pz_b 3) 70 = .ok (.aload_n 3, 1) := by decide +kernel
theorem q3_70 {dA : Nat → ClassId} {d : Nat} {st : List Value} {f : pz_F} {Q : Option Value → pz_F → Prop} {v0 v1 v2 v4 : Value} {x : Nat} : pz_R dA d 3 70 [v0, v1, v2, .ref x, v4] st f Q = pz_R dA d 3 71 [v0, v1, v2, .ref x, v4] (.ref x :: st) f Q := pz_go (pz_so d3_70 rfl)
theorem q3_70n {dA : Nat → ClassId} {d : Nat} {st : List Value} {f : pz_F} {Q : Option Value → pz_F → Prop} {v0 v1 v2 v4 : Value} : pz_R dA d 3 70 [v0, v1, v2, .null, v4] st f Q = pz_R dA d 3 71 [v0, v1, v2, .null, v4] (.null :: st) f Q := pz_go (pz_so d3_70 rfl)
theorem d3_71 : decode (pz_b 3) 71 = .ok (.iconst 0, 1) := by decide +kernel
theorem q3_71 {dA : Nat → ClassId} {d : Nat} {st : List Value} {f : pz_F} {Q : Option Value → pz_F → Prop} {v0 v1 v2 v3 v4 : Value} : pz_R dA d 3 71 [v0, v1, v2, v3, v4] st f Q = pz_R dA d 3 72 [v0, v1, v2, v3, v4] (.int 0 :: st) f Q := pz_go (pz_so d3_71 rfl)
theorem d3_72 : decode (pz_b 3) 72 = .ok (.putfield 66, 3) := by decide +kernel
theorem q3_72z {dA : Nat → ClassId} {d : Nat} {st : List Value} {f : pz_F} {Q : Option Value → pz_F → Prop} {v0 v1 v2 v3 v4 : Value} {a : Nat} : pz_R dA d 3 72 [v0, v1, v2, v3, v4] (.int 0 :: .ref a :: st) f Q = pz_o (pz_pf f a 3 3 (.int 0)) (fun f' => pz_R dA d 3 75 [v0, v1, v2, v3, v4] st f' Q) := pz_gp d3_72 rfl rfl rfl rfl
theorem q3_72o {dA : Nat → ClassId} {d : Nat} {st : List Value} {f : pz_F} {Q : Option Value → pz_F → Prop} {v0 v1 v2 v3 v4 : Value} {a : Nat} : pz_R dA d 3 72 [v0, v1, v2, v3, v4] (.int 1 :: .ref a :: st) f Q = pz_o (pz_pf f a 3 3 (.int 1)) (fun f' => pz_R dA d 3 75 [v0, v1, v2, v3, v4] st f' Q) := pz_gp d3_72 rfl rfl rfl rfl
theorem d3_75 : decode (pz_b 3) 75 = .ok (.aload_n 3, 1) := by decide +kernel
theorem q3_75 {dA : Nat → ClassId} {d : Nat} {st : List Value} {f : pz_F} {Q : Option Value → pz_F → Prop} {v0 v1 v2 v4 : Value} {x : Nat} : pz_R dA d 3 75 [v0, v1, v2, .ref x, v4] st f Q = pz_R dA d 3 76 [v0, v1, v2, .ref x, v4] (.ref x :: st) f Q := pz_go (pz_so d3_75 rfl)
theorem q3_75n {dA : Nat → ClassId} {d : Nat} {st : List Value} {f : pz_F} {Q : Option Value → pz_F → Prop} {v0 v1 v2 v4 : Value} : pz_R dA d 3 75 [v0, v1, v2, .null, v4] st f Q = pz_R dA d 3 76 [v0, v1, v2, .null, v4] (.null :: st) f Q := pz_go (pz_so d3_75 rfl)
theorem d3_76 : decode (pz_b 3) 76 = .ok (.aload_n 0, 1) := by decide +kernel
theorem q3_76 {dA : Nat → ClassId} {d : Nat} {st : List Value} {f : pz_F} {Q : Option Value → pz_F → Prop} {v1 v2 v3 v4 : Value} {x : Nat} : pz_R dA d 3 76 [.ref x, v1, v2, v3, v4] st f Q = pz_R dA d 3 77 [.ref x, v1, v2, v3, v4] (.ref x :: st) f Q := pz_go (pz_so d3_76 rfl)
theorem d3_77 : decode (pz_b 3) 77 = .ok (.getfield 7, 3) := by decide +kernel
theorem q3_77 {dA : Nat → ClassId} {d : Nat} {st : List Value} {f : pz_F} {Q : Option Value → pz_F → Prop} {v0 v1 v2 v3 v4 : Value} {a : Nat} : pz_R dA d 3 77 [v0, v1, v2, v3, v4] (.ref a :: st) f Q = pz_o (pz_gf f a 0 0) (fun v => pz_R dA d 3 80 [v0, v1, v2, v3, v4] (v :: st) f Q) := pz_gg d3_77 rfl
theorem d3_80 : decode (pz_b 3) 80 = .ok (.putfield 86, 3) := by decide +kernel
theorem q3_80 {dA : Nat → ClassId} {d : Nat} {st : List Value} {f : pz_F} {Q : Option Value → pz_F → Prop} {v0 v1 v2 v3 v4 : Value} {x : Int32} {a : Nat} : pz_R dA d 3 80 [v0, v1, v2, v3, v4] (.int x :: .ref a :: st) f Q = pz_o (pz_pf f a 3 4 (.int x)) (fun f' => pz_R dA d 3 83 [v0, v1, v2, v3, v4] st f' Q) := pz_gp d3_80 rfl rfl rfl rfl
theorem d3_83 : decode (pz_b 3) 83 = .ok (.iconst 1, 1) := by decide +kernel
theorem q3_83 {dA : Nat → ClassId} {d : Nat} {st : List Value} {f : pz_F} {Q : Option Value → pz_F → Prop} {v0 v1 v2 v3 v4 : Value} : pz_R dA d 3 83 [v0, v1, v2, v3, v4] st f Q = pz_R dA d 3 84 [v0, v1, v2, v3, v4] (.int 1 :: st) f Q := pz_go (pz_so d3_83 rfl)
theorem d3_84 : decode (pz_b 3) 84 = .ok (.ireturn, 1) := by decide +kernel
theorem q3_84z {dA : Nat → ClassId} {d : Nat} {st : List Value} {f : pz_F} {Q : Option Value → pz_F → Prop} {v0 v1 v2 v3 v4 : Value} : pz_R dA d 3 84 [v0, v1, v2, v3, v4] [.int 0] f Q = Q (some (.int 0)) f := pz_gri d3_84 rfl rfl
theorem q3_84o {dA : Nat → ClassId} {d : Nat} {st : List Value} {f : pz_F} {Q : Option Value → pz_F → Prop} {v0 v1 v2 v3 v4 : Value} : pz_R dA d 3 84 [v0, v1, v2, v3, v4] [.int 1] f Q = Q (some (.int 1)) f := pz_gri d3_84 rfl rfl
/-! P_deliver (I)Z -/
theorem e4 {dA : Nat → ClassId} {d : Nat} {f : pz_F} {Q : Option Value → pz_F → Prop} {a0 : Nat} {a1 : Int32} : pz_C dA d 4 [.ref a0, .int a1] f Q = pz_R dA d 4 0 [.ref a0, .int a1, .retAddr 0] [] f Q := rfl
theorem d4_0 : decode (pz_b 4) 0 = .ok (.aload_n 0, 1) := by decide +kernel
theorem q4_0 {dA : Nat → ClassId} {d : Nat} {st : List Value} {f : pz_F} {Q : Option Value → pz_F → Prop} {v1 v2 : Value} {x : Nat} : pz_R dA d 4 0 [.ref x, v1, v2] st f Q = pz_R dA d 4 1 [.ref x, v1, v2] (.ref x :: st) f Q := pz_go (pz_so d4_0 rfl)
theorem d4_1 : decode (pz_b 4) 1 = .ok (.getfield 36, 3) := by decide +kernel
theorem q4_1 {dA : Nat → ClassId} {d : Nat} {st : List Value} {f : pz_F} {Q : Option Value → pz_F → Prop} {v0 v1 v2 : Value} {a : Nat} : pz_R dA d 4 1 [v0, v1, v2] (.ref a :: st) f Q = pz_o (pz_gf f a 0 4) (fun v => pz_R dA d 4 4 [v0, v1, v2] (v :: st) f Q) := pz_gg d4_1 rfl
theorem d4_4 : decode (pz_b 4) 4 = .ok (.iload_n 1, 1) := by decide +kernel
theorem q4_4 {dA : Nat → ClassId} {d : Nat} {st : List Value} {f : pz_F} {Q : Option Value → pz_F → Prop} {v0 v2 : Value} {x : Int32} : pz_R dA d 4 4 [v0, .int x, v2] st f Q = pz_R dA d 4 5 [v0, .int x, v2] (.int x :: st) f Q := pz_go (pz_so d4_4 rfl)
theorem d4_5 : decode (pz_b 4) 5 = .ok (.invokevirtual 89, 3) := by decide +kernel
theorem q4_5 {dA : Nat → ClassId} {d : Nat} {st : List Value} {f : pz_F} {Q : Option Value → pz_F → Prop} {v0 v1 v2 : Value} {c0 : Int32} {b : Nat} (hr : st.length ≤ 4) : pz_R dA (d + 1) 4 5 [v0, v1, v2] (.int c0 :: .ref b :: st) f Q = pz_o (pz_gu f b 4) (fun _ => pz_C dA d 73 [.ref b, .int c0] f (fun r f' => pz_R dA (d + 1) 4 8 [v0, v1, v2] (r.toList ++ st) f' Q)) := pz_gcv (As := [.int c0]) d4_5 rfl rfl rfl hr
theorem d4_8 : decode (pz_b 4) 8 = .ok (.ifCond .ne 5, 3) := by decide +kernel
theorem q4_8 {dA : Nat → ClassId} {d : Nat} {st : List Value} {f : pz_F} {Q : Option Value → pz_F → Prop} {v0 v1 v2 : Value} {x : Int32} : pz_R dA d 4 8 [v0, v1, v2] (.int x :: st) f Q = (if x = 0 then pz_R dA d 4 11 [v0, v1, v2] st f Q else pz_R dA d 4 13 [v0, v1, v2] st f Q) := pz_gj1 .ne d4_8 rfl
theorem d4_11 : decode (pz_b 4) 11 = .ok (.iconst 0, 1) := by decide +kernel
theorem q4_11 {dA : Nat → ClassId} {d : Nat} {st : List Value} {f : pz_F} {Q : Option Value → pz_F → Prop} {v0 v1 v2 : Value} : pz_R dA d 4 11 [v0, v1, v2] st f Q = pz_R dA d 4 12 [v0, v1, v2] (.int 0 :: st) f Q := pz_go (pz_so d4_11 rfl)
theorem d4_12 : decode (pz_b 4) 12 = .ok (.ireturn, 1) := by decide +kernel
theorem q4_12z {dA : Nat → ClassId} {d : Nat} {st : List Value} {f : pz_F} {Q : Option Value → pz_F → Prop} {v0 v1 v2 : Value} : pz_R dA d 4 12 [v0, v1, v2] [.int 0] f Q = Q (some (.int 0)) f := pz_gri d4_12 rfl rfl
theorem q4_12o {dA : Nat → ClassId} {d : Nat} {st : List Value} {f : pz_F} {Q : Option Value → pz_F → Prop} {v0 v1 v2 : Value} : pz_R dA d 4 12 [v0, v1, v2] [.int 1] f Q = Q (some (.int 1)) f := pz_gri d4_12 rfl rfl
theorem d4_13 : decode (pz_b 4) 13 = .ok (.aload_n 0, 1) := by decide +kernel
theorem q4_13 {dA : Nat → ClassId} {d : Nat} {st : List Value} {f : pz_F} {Q : Option Value → pz_F → Prop} {v1 v2 : Value} {x : Nat} : pz_R dA d 4 13 [.ref x, v1, v2] st f Q = pz_R dA d 4 14 [.ref x, v1, v2] (.ref x :: st) f Q := pz_go (pz_so d4_13 rfl)
theorem d4_14 : decode (pz_b 4) 14 = .ok (.getfield 36, 3) := by decide +kernel
theorem q4_14 {dA : Nat → ClassId} {d : Nat} {st : List Value} {f : pz_F} {Q : Option Value → pz_F → Prop} {v0 v1 v2 : Value} {a : Nat} : pz_R dA d 4 14 [v0, v1, v2] (.ref a :: st) f Q = pz_o (pz_gf f a 0 4) (fun v => pz_R dA d 4 17 [v0, v1, v2] (v :: st) f Q) := pz_gg d4_14 rfl
theorem d4_17 : decode (pz_b 4) 17 = .ok (.iload_n 1, 1) := by decide +kernel
theorem q4_17 {dA : Nat → ClassId} {d : Nat} {st : List Value} {f : pz_F} {Q : Option Value → pz_F → Prop} {v0 v2 : Value} {x : Int32} : pz_R dA d 4 17 [v0, .int x, v2] st f Q = pz_R dA d 4 18 [v0, .int x, v2] (.int x :: st) f Q := pz_go (pz_so d4_17 rfl)
theorem d4_18 : decode (pz_b 4) 18 = .ok (.invokevirtual 92, 3) := by decide +kernel
theorem q4_18 {dA : Nat → ClassId} {d : Nat} {st : List Value} {f : pz_F} {Q : Option Value → pz_F → Prop} {v0 v1 v2 : Value} {c0 : Int32} {b : Nat} (hr : st.length ≤ 4) : pz_R dA (d + 1) 4 18 [v0, v1, v2] (.int c0 :: .ref b :: st) f Q = pz_o (pz_gu f b 4) (fun _ => pz_C dA d 75 [.ref b, .int c0] f (fun r f' => pz_R dA (d + 1) 4 21 [v0, v1, v2] (r.toList ++ st) f' Q)) := pz_gcv (As := [.int c0]) d4_18 rfl rfl rfl hr
theorem d4_21 : decode (pz_b 4) 21 = .ok (.astore_n 2, 1) := by decide +kernel
theorem q4_21 {dA : Nat → ClassId} {d : Nat} {st : List Value} {f : pz_F} {Q : Option Value → pz_F → Prop} {v0 v1 v2 : Value} {x : Nat} : pz_R dA d 4 21 [v0, v1, v2] (.ref x :: st) f Q = pz_R dA d 4 22 [v0, v1, .ref x] st f Q := pz_go (pz_so d4_21 rfl)
theorem q4_21n {dA : Nat → ClassId} {d : Nat} {st : List Value} {f : pz_F} {Q : Option Value → pz_F → Prop} {v0 v1 v2 : Value} : pz_R dA d 4 21 [v0, v1, v2] (.null :: st) f Q = pz_R dA d 4 22 [v0, v1, .null] st f Q := pz_go (pz_so d4_21 rfl)
theorem d4_22 : decode (pz_b 4) 22 = .ok (.aload_n 0, 1) := by decide +kernel
theorem q4_22 {dA : Nat → ClassId} {d : Nat} {st : List Value} {f : pz_F} {Q : Option Value → pz_F → Prop} {v1 v2 : Value} {x : Nat} : pz_R dA d 4 22 [.ref x, v1, v2] st f Q = pz_R dA d 4 23 [.ref x, v1, v2] (.ref x :: st) f Q := pz_go (pz_so d4_22 rfl)
theorem d4_23 : decode (pz_b 4) 23 = .ok (.aload_n 2, 1) := by decide +kernel
theorem q4_23 {dA : Nat → ClassId} {d : Nat} {st : List Value} {f : pz_F} {Q : Option Value → pz_F → Prop} {v0 v1 : Value} {x : Nat} : pz_R dA d 4 23 [v0, v1, .ref x] st f Q = pz_R dA d 4 24 [v0, v1, .ref x] (.ref x :: st) f Q := pz_go (pz_so d4_23 rfl)
theorem q4_23n {dA : Nat → ClassId} {d : Nat} {st : List Value} {f : pz_F} {Q : Option Value → pz_F → Prop} {v0 v1 : Value} : pz_R dA d 4 23 [v0, v1, .null] st f Q = pz_R dA d 4 24 [v0, v1, .null] (.null :: st) f Q := pz_go (pz_so d4_23 rfl)
theorem d4_24 : decode (pz_b 4) 24 = .ok (.invokevirtual 96, 3) := by decide +kernel
theorem q4_24 {dA : Nat → ClassId} {d : Nat} {st : List Value} {f : pz_F} {Q : Option Value → pz_F → Prop} {v0 v1 v2 : Value} {c0 : Nat} {b : Nat} (hr : st.length ≤ 4) : pz_R dA (d + 1) 4 24 [v0, v1, v2] (.ref c0 :: .ref b :: st) f Q = pz_o (pz_gu f b 0) (fun _ => pz_C dA d 28 [.ref b, .ref c0] f (fun r f' => pz_R dA (d + 1) 4 27 [v0, v1, v2] (r.toList ++ st) f' Q)) := pz_gcv (As := [.ref c0]) d4_24 rfl rfl rfl hr
theorem d4_27 : decode (pz_b 4) 27 = .ok (.ifCond .ne 5, 3) := by decide +kernel
theorem q4_27 {dA : Nat → ClassId} {d : Nat} {st : List Value} {f : pz_F} {Q : Option Value → pz_F → Prop} {v0 v1 v2 : Value} {x : Int32} : pz_R dA d 4 27 [v0, v1, v2] (.int x :: st) f Q = (if x = 0 then pz_R dA d 4 30 [v0, v1, v2] st f Q else pz_R dA d 4 32 [v0, v1, v2] st f Q) := pz_gj1 .ne d4_27 rfl
theorem d4_30 : decode (pz_b 4) 30 = .ok (.iconst 0, 1) := by decide +kernel
theorem q4_30 {dA : Nat → ClassId} {d : Nat} {st : List Value} {f : pz_F} {Q : Option Value → pz_F → Prop} {v0 v1 v2 : Value} : pz_R dA d 4 30 [v0, v1, v2] st f Q = pz_R dA d 4 31 [v0, v1, v2] (.int 0 :: st) f Q := pz_go (pz_so d4_30 rfl)
theorem d4_31 : decode (pz_b 4) 31 = .ok (.ireturn, 1) := by decide +kernel
theorem q4_31z {dA : Nat → ClassId} {d : Nat} {st : List Value} {f : pz_F} {Q : Option Value → pz_F → Prop} {v0 v1 v2 : Value} : pz_R dA d 4 31 [v0, v1, v2] [.int 0] f Q = Q (some (.int 0)) f := pz_gri d4_31 rfl rfl
theorem q4_31o {dA : Nat → ClassId} {d : Nat} {st : List Value} {f : pz_F} {Q : Option Value → pz_F → Prop} {v0 v1 v2 : Value} : pz_R dA d 4 31 [v0, v1, v2] [.int 1] f Q = Q (some (.int 1)) f := pz_gri d4_31 rfl rfl
theorem d4_32 : decode (pz_b 4) 32 = .ok (.aload_n 0, 1) := by decide +kernel
theorem q4_32 {dA : Nat → ClassId} {d : Nat} {st : List Value} {f : pz_F} {Q : Option Value → pz_F → Prop} {v1 v2 : Value} {x : Nat} : pz_R dA d 4 32 [.ref x, v1, v2] st f Q = pz_R dA d 4 33 [.ref x, v1, v2] (.ref x :: st) f Q := pz_go (pz_so d4_32 rfl)
theorem d4_33 : decode (pz_b 4) 33 = .ok (.aload_n 2, 1) := by decide +kernel
theorem q4_33 {dA : Nat → ClassId} {d : Nat} {st : List Value} {f : pz_F} {Q : Option Value → pz_F → Prop} {v0 v1 : Value} {x : Nat} : pz_R dA d 4 33 [v0, v1, .ref x] st f Q = pz_R dA d 4 34 [v0, v1, .ref x] (.ref x :: st) f Q := pz_go (pz_so d4_33 rfl)
theorem q4_33n {dA : Nat → ClassId} {d : Nat} {st : List Value} {f : pz_F} {Q : Option Value → pz_F → Prop} {v0 v1 : Value} : pz_R dA d 4 33 [v0, v1, .null] st f Q = pz_R dA d 4 34 [v0, v1, .null] (.null :: st) f Q := pz_go (pz_so d4_33 rfl)
theorem d4_34 : decode (pz_b 4) 34 = .ok (.invokevirtual 100, 3) := by decide +kernel
theorem q4_34 {dA : Nat → ClassId} {d : Nat} {st : List Value} {f : pz_F} {Q : Option Value → pz_F → Prop} {v0 v1 v2 : Value} {c0 : Nat} {b : Nat} (hr : st.length ≤ 4) : pz_R dA (d + 1) 4 34 [v0, v1, v2] (.ref c0 :: .ref b :: st) f Q = pz_o (pz_gu f b 0) (fun _ => pz_C dA d 29 [.ref b, .ref c0] f (fun r f' => pz_R dA (d + 1) 4 37 [v0, v1, v2] (r.toList ++ st) f' Q)) := pz_gcv (As := [.ref c0]) d4_34 rfl rfl rfl hr
theorem d4_37 : decode (pz_b 4) 37 = .ok (.iconst 1, 1) := by decide +kernel
theorem q4_37 {dA : Nat → ClassId} {d : Nat} {st : List Value} {f : pz_F} {Q : Option Value → pz_F → Prop} {v0 v1 v2 : Value} : pz_R dA d 4 37 [v0, v1, v2] st f Q = pz_R dA d 4 38 [v0, v1, v2] (.int 1 :: st) f Q := pz_go (pz_so d4_37 rfl)
theorem d4_38 : decode (pz_b 4) 38 = .ok (.ireturn, 1) := by decide +kernel
theorem q4_38z {dA : Nat → ClassId} {d : Nat} {st : List Value} {f : pz_F} {Q : Option Value → pz_F → Prop} {v0 v1 v2 : Value} : pz_R dA d 4 38 [v0, v1, v2] [.int 0] f Q = Q (some (.int 0)) f := pz_gri d4_38 rfl rfl
theorem q4_38o {dA : Nat → ClassId} {d : Nat} {st : List Value} {f : pz_F} {Q : Option Value → pz_F → Prop} {v0 v1 v2 : Value} : pz_R dA d 4 38 [v0, v1, v2] [.int 1] f Q = Q (some (.int 1)) f := pz_gri d4_38 rfl rfl
/-! P_lose (I)Z -/
theorem e5 {dA : Nat → ClassId} {d : Nat} {f : pz_F} {Q : Option Value → pz_F → Prop} {a0 : Nat} {a1 : Int32} : pz_C dA d 5 [.ref a0, .int a1] f Q = pz_R dA d 5 0 [.ref a0, .int a1] [] f Q := rfl
theorem d5_0 : decode (pz_b 5) 0 = .ok (.aload_n 0, 1) := by decide +kernel
theorem q5_0 {dA : Nat → ClassId} {d : Nat} {st : List Value} {f : pz_F} {Q : Option Value → pz_F → Prop} {v1 : Value} {x : Nat} : pz_R dA d 5 0 [.ref x, v1] st f Q = pz_R dA d 5 1 [.ref x, v1] (.ref x :: st) f Q := pz_go (pz_so d5_0 rfl)
theorem d5_1 : decode (pz_b 5) 1 = .ok (.getfield 36, 3) := by decide +kernel
theorem q5_1 {dA : Nat → ClassId} {d : Nat} {st : List Value} {f : pz_F} {Q : Option Value → pz_F → Prop} {v0 v1 : Value} {a : Nat} : pz_R dA d 5 1 [v0, v1] (.ref a :: st) f Q = pz_o (pz_gf f a 0 4) (fun v => pz_R dA d 5 4 [v0, v1] (v :: st) f Q) := pz_gg d5_1 rfl
theorem d5_4 : decode (pz_b 5) 4 = .ok (.iload_n 1, 1) := by decide +kernel
theorem q5_4 {dA : Nat → ClassId} {d : Nat} {st : List Value} {f : pz_F} {Q : Option Value → pz_F → Prop} {v0 : Value} {x : Int32} : pz_R dA d 5 4 [v0, .int x] st f Q = pz_R dA d 5 5 [v0, .int x] (.int x :: st) f Q := pz_go (pz_so d5_4 rfl)
theorem d5_5 : decode (pz_b 5) 5 = .ok (.invokevirtual 89, 3) := by decide +kernel
theorem q5_5 {dA : Nat → ClassId} {d : Nat} {st : List Value} {f : pz_F} {Q : Option Value → pz_F → Prop} {v0 v1 : Value} {c0 : Int32} {b : Nat} (hr : st.length ≤ 4) : pz_R dA (d + 1) 5 5 [v0, v1] (.int c0 :: .ref b :: st) f Q = pz_o (pz_gu f b 4) (fun _ => pz_C dA d 73 [.ref b, .int c0] f (fun r f' => pz_R dA (d + 1) 5 8 [v0, v1] (r.toList ++ st) f' Q)) := pz_gcv (As := [.int c0]) d5_5 rfl rfl rfl hr
theorem d5_8 : decode (pz_b 5) 8 = .ok (.ifCond .ne 5, 3) := by decide +kernel
theorem q5_8 {dA : Nat → ClassId} {d : Nat} {st : List Value} {f : pz_F} {Q : Option Value → pz_F → Prop} {v0 v1 : Value} {x : Int32} : pz_R dA d 5 8 [v0, v1] (.int x :: st) f Q = (if x = 0 then pz_R dA d 5 11 [v0, v1] st f Q else pz_R dA d 5 13 [v0, v1] st f Q) := pz_gj1 .ne d5_8 rfl
theorem d5_11 : decode (pz_b 5) 11 = .ok (.iconst 0, 1) := by decide +kernel
theorem q5_11 {dA : Nat → ClassId} {d : Nat} {st : List Value} {f : pz_F} {Q : Option Value → pz_F → Prop} {v0 v1 : Value} : pz_R dA d 5 11 [v0, v1] st f Q = pz_R dA d 5 12 [v0, v1] (.int 0 :: st) f Q := pz_go (pz_so d5_11 rfl)
theorem d5_12 : decode (pz_b 5) 12 = .ok (.ireturn, 1) := by decide +kernel
theorem q5_12z {dA : Nat → ClassId} {d : Nat} {st : List Value} {f : pz_F} {Q : Option Value → pz_F → Prop} {v0 v1 : Value} : pz_R dA d 5 12 [v0, v1] [.int 0] f Q = Q (some (.int 0)) f := pz_gri d5_12 rfl rfl
theorem q5_12o {dA : Nat → ClassId} {d : Nat} {st : List Value} {f : pz_F} {Q : Option Value → pz_F → Prop} {v0 v1 : Value} : pz_R dA d 5 12 [v0, v1] [.int 1] f Q = Q (some (.int 1)) f := pz_gri d5_12 rfl rfl
theorem d5_13 : decode (pz_b 5) 13 = .ok (.aload_n 0, 1) := by decide +kernel
theorem q5_13 {dA : Nat → ClassId} {d : Nat} {st : List Value} {f : pz_F} {Q : Option Value → pz_F → Prop} {v1 : Value} {x : Nat} : pz_R dA d 5 13 [.ref x, v1] st f Q = pz_R dA d 5 14 [.ref x, v1] (.ref x :: st) f Q := pz_go (pz_so d5_13 rfl)
theorem d5_14 : decode (pz_b 5) 14 = .ok (.getfield 36, 3) := by decide +kernel
theorem q5_14 {dA : Nat → ClassId} {d : Nat} {st : List Value} {f : pz_F} {Q : Option Value → pz_F → Prop} {v0 v1 : Value} {a : Nat} : pz_R dA d 5 14 [v0, v1] (.ref a :: st) f Q = pz_o (pz_gf f a 0 4) (fun v => pz_R dA d 5 17 [v0, v1] (v :: st) f Q) := pz_gg d5_14 rfl
theorem d5_17 : decode (pz_b 5) 17 = .ok (.iload_n 1, 1) := by decide +kernel
theorem q5_17 {dA : Nat → ClassId} {d : Nat} {st : List Value} {f : pz_F} {Q : Option Value → pz_F → Prop} {v0 : Value} {x : Int32} : pz_R dA d 5 17 [v0, .int x] st f Q = pz_R dA d 5 18 [v0, .int x] (.int x :: st) f Q := pz_go (pz_so d5_17 rfl)
theorem d5_18 : decode (pz_b 5) 18 = .ok (.invokevirtual 92, 3) := by decide +kernel
theorem q5_18 {dA : Nat → ClassId} {d : Nat} {st : List Value} {f : pz_F} {Q : Option Value → pz_F → Prop} {v0 v1 : Value} {c0 : Int32} {b : Nat} (hr : st.length ≤ 4) : pz_R dA (d + 1) 5 18 [v0, v1] (.int c0 :: .ref b :: st) f Q = pz_o (pz_gu f b 4) (fun _ => pz_C dA d 75 [.ref b, .int c0] f (fun r f' => pz_R dA (d + 1) 5 21 [v0, v1] (r.toList ++ st) f' Q)) := pz_gcv (As := [.int c0]) d5_18 rfl rfl rfl hr
theorem d5_21 : decode (pz_b 5) 21 = .ok (.pop, 1) := by decide +kernel
theorem q5_21 {dA : Nat → ClassId} {d : Nat} {st : List Value} {f : pz_F} {Q : Option Value → pz_F → Prop} {v0 v1 : Value} {x : Nat} : pz_R dA d 5 21 [v0, v1] (.ref x :: st) f Q = pz_R dA d 5 22 [v0, v1] st f Q := pz_go (pz_so d5_21 rfl)
theorem d5_22 : decode (pz_b 5) 22 = .ok (.iconst 1, 1) := by decide +kernel
theorem q5_22 {dA : Nat → ClassId} {d : Nat} {st : List Value} {f : pz_F} {Q : Option Value → pz_F → Prop} {v0 v1 : Value} : pz_R dA d 5 22 [v0, v1] st f Q = pz_R dA d 5 23 [v0, v1] (.int 1 :: st) f Q := pz_go (pz_so d5_22 rfl)
theorem d5_23 : decode (pz_b 5) 23 = .ok (.ireturn, 1) := by decide +kernel
theorem q5_23z {dA : Nat → ClassId} {d : Nat} {st : List Value} {f : pz_F} {Q : Option Value → pz_F → Prop} {v0 v1 : Value} : pz_R dA d 5 23 [v0, v1] [.int 0] f Q = Q (some (.int 0)) f := pz_gri d5_23 rfl rfl
theorem q5_23o {dA : Nat → ClassId} {d : Nat} {st : List Value} {f : pz_F} {Q : Option Value → pz_F → Prop} {v0 v1 : Value} : pz_R dA d 5 23 [v0, v1] [.int 1] f Q = Q (some (.int 1)) f := pz_gri d5_23 rfl rfl
/-! P_stop (I)Z -/
theorem e6 {dA : Nat → ClassId} {d : Nat} {f : pz_F} {Q : Option Value → pz_F → Prop} {a0 : Nat} {a1 : Int32} : pz_C dA d 6 [.ref a0, .int a1] f Q = pz_R dA d 6 0 [.ref a0, .int a1] [] f Q := rfl
theorem d6_0 : decode (pz_b 6) 0 = .ok (.iload_n 1, 1) := by decide +kernel
theorem q6_0 {dA : Nat → ClassId} {d : Nat} {st : List Value} {f : pz_F} {Q : Option Value → pz_F → Prop} {v0 : Value} {x : Int32} : pz_R dA d 6 0 [v0, .int x] st f Q = pz_R dA d 6 1 [v0, .int x] (.int x :: st) f Q := pz_go (pz_so d6_0 rfl)
theorem d6_1 : decode (pz_b 6) 1 = .ok (.invokestatic 57, 3) := by decide +kernel
theorem q6_1 {dA : Nat → ClassId} {d : Nat} {st : List Value} {f : pz_F} {Q : Option Value → pz_F → Prop} {v0 v1 : Value} {c0 : Int32} (hr : st.length ≤ 4) : pz_R dA (d + 1) 6 1 [v0, v1] (.int c0 :: st) f Q = pz_C dA d 15 [.int c0] f (fun r f' => pz_R dA (d + 1) 6 4 [v0, v1] (r.toList ++ st) f' Q) := pz_gcs (As := [.int c0]) d6_1 rfl rfl rfl hr
theorem d6_4 : decode (pz_b 6) 4 = .ok (.ifCond .eq 27, 3) := by decide +kernel
theorem q6_4 {dA : Nat → ClassId} {d : Nat} {st : List Value} {f : pz_F} {Q : Option Value → pz_F → Prop} {v0 v1 : Value} {x : Int32} : pz_R dA d 6 4 [v0, v1] (.int x :: st) f Q = (if x = 0 then pz_R dA d 6 31 [v0, v1] st f Q else pz_R dA d 6 7 [v0, v1] st f Q) := pz_gj1 .eq d6_4 rfl
theorem d6_7 : decode (pz_b 6) 7 = .ok (.aload_n 0, 1) := by decide +kernel
theorem q6_7 {dA : Nat → ClassId} {d : Nat} {st : List Value} {f : pz_F} {Q : Option Value → pz_F → Prop} {v1 : Value} {x : Nat} : pz_R dA d 6 7 [.ref x, v1] st f Q = pz_R dA d 6 8 [.ref x, v1] (.ref x :: st) f Q := pz_go (pz_so d6_7 rfl)
theorem d6_8 : decode (pz_b 6) 8 = .ok (.getfield 19, 3) := by decide +kernel
theorem q6_8 {dA : Nat → ClassId} {d : Nat} {st : List Value} {f : pz_F} {Q : Option Value → pz_F → Prop} {v0 v1 : Value} {a : Nat} : pz_R dA d 6 8 [v0, v1] (.ref a :: st) f Q = pz_o (pz_gf f a 0 2) (fun v => pz_R dA d 6 11 [v0, v1] (v :: st) f Q) := pz_gg d6_8 rfl
theorem d6_11 : decode (pz_b 6) 11 = .ok (.iconst 0, 1) := by decide +kernel
theorem q6_11 {dA : Nat → ClassId} {d : Nat} {st : List Value} {f : pz_F} {Q : Option Value → pz_F → Prop} {v0 v1 : Value} : pz_R dA d 6 11 [v0, v1] st f Q = pz_R dA d 6 12 [v0, v1] (.int 0 :: st) f Q := pz_go (pz_so d6_11 rfl)
theorem d6_12 : decode (pz_b 6) 12 = .ok (.aaload, 1) := by decide +kernel
theorem q6_12 {dA : Nat → ClassId} {d : Nat} {st : List Value} {f : pz_F} {Q : Option Value → pz_F → Prop} {v0 v1 : Value} {i : Int32} {a : Nat} : pz_R dA d 6 12 [v0, v1] (.int i :: .ref a :: st) f Q = pz_o (pz_rl dA f a i) (fun v => pz_R dA d 6 13 [v0, v1] (v :: st) f Q) := pz_grl d6_12
theorem d6_13 : decode (pz_b 6) 13 = .ok (.invokestatic 104, 3) := by decide +kernel
theorem q6_13 {dA : Nat → ClassId} {d : Nat} {st : List Value} {f : pz_F} {Q : Option Value → pz_F → Prop} {v0 v1 : Value} {c0 : Nat} (hr : st.length ≤ 4) : pz_R dA (d + 1) 6 13 [v0, v1] (.ref c0 :: st) f Q = pz_C dA d 17 [.ref c0] f (fun r f' => pz_R dA (d + 1) 6 16 [v0, v1] (r.toList ++ st) f' Q) := pz_gcs (As := [.ref c0]) d6_13 rfl rfl rfl hr
theorem d6_16 : decode (pz_b 6) 16 = .ok (.ifCond .ne 15, 3) := by decide +kernel
theorem q6_16 {dA : Nat → ClassId} {d : Nat} {st : List Value} {f : pz_F} {Q : Option Value → pz_F → Prop} {v0 v1 : Value} {x : Int32} : pz_R dA d 6 16 [v0, v1] (.int x :: st) f Q = (if x = 0 then pz_R dA d 6 19 [v0, v1] st f Q else pz_R dA d 6 31 [v0, v1] st f Q) := pz_gj1 .ne d6_16 rfl
theorem d6_19 : decode (pz_b 6) 19 = .ok (.aload_n 0, 1) := by decide +kernel
theorem q6_19 {dA : Nat → ClassId} {d : Nat} {st : List Value} {f : pz_F} {Q : Option Value → pz_F → Prop} {v1 : Value} {x : Nat} : pz_R dA d 6 19 [.ref x, v1] st f Q = pz_R dA d 6 20 [.ref x, v1] (.ref x :: st) f Q := pz_go (pz_so d6_19 rfl)
theorem d6_20 : decode (pz_b 6) 20 = .ok (.getfield 19, 3) := by decide +kernel
theorem q6_20 {dA : Nat → ClassId} {d : Nat} {st : List Value} {f : pz_F} {Q : Option Value → pz_F → Prop} {v0 v1 : Value} {a : Nat} : pz_R dA d 6 20 [v0, v1] (.ref a :: st) f Q = pz_o (pz_gf f a 0 2) (fun v => pz_R dA d 6 23 [v0, v1] (v :: st) f Q) := pz_gg d6_20 rfl
theorem d6_23 : decode (pz_b 6) 23 = .ok (.iconst 1, 1) := by decide +kernel
theorem q6_23 {dA : Nat → ClassId} {d : Nat} {st : List Value} {f : pz_F} {Q : Option Value → pz_F → Prop} {v0 v1 : Value} : pz_R dA d 6 23 [v0, v1] st f Q = pz_R dA d 6 24 [v0, v1] (.int 1 :: st) f Q := pz_go (pz_so d6_23 rfl)
theorem d6_24 : decode (pz_b 6) 24 = .ok (.aaload, 1) := by decide +kernel
theorem q6_24 {dA : Nat → ClassId} {d : Nat} {st : List Value} {f : pz_F} {Q : Option Value → pz_F → Prop} {v0 v1 : Value} {i : Int32} {a : Nat} : pz_R dA d 6 24 [v0, v1] (.int i :: .ref a :: st) f Q = pz_o (pz_rl dA f a i) (fun v => pz_R dA d 6 25 [v0, v1] (v :: st) f Q) := pz_grl d6_24
theorem d6_25 : decode (pz_b 6) 25 = .ok (.invokestatic 104, 3) := by decide +kernel
theorem q6_25 {dA : Nat → ClassId} {d : Nat} {st : List Value} {f : pz_F} {Q : Option Value → pz_F → Prop} {v0 v1 : Value} {c0 : Nat} (hr : st.length ≤ 4) : pz_R dA (d + 1) 6 25 [v0, v1] (.ref c0 :: st) f Q = pz_C dA d 17 [.ref c0] f (fun r f' => pz_R dA (d + 1) 6 28 [v0, v1] (r.toList ++ st) f' Q) := pz_gcs (As := [.ref c0]) d6_25 rfl rfl rfl hr
theorem d6_28 : decode (pz_b 6) 28 = .ok (.ifCond .eq 5, 3) := by decide +kernel
theorem q6_28 {dA : Nat → ClassId} {d : Nat} {st : List Value} {f : pz_F} {Q : Option Value → pz_F → Prop} {v0 v1 : Value} {x : Int32} : pz_R dA d 6 28 [v0, v1] (.int x :: st) f Q = (if x = 0 then pz_R dA d 6 33 [v0, v1] st f Q else pz_R dA d 6 31 [v0, v1] st f Q) := pz_gj1 .eq d6_28 rfl
theorem d6_31 : decode (pz_b 6) 31 = .ok (.iconst 0, 1) := by decide +kernel
theorem q6_31 {dA : Nat → ClassId} {d : Nat} {st : List Value} {f : pz_F} {Q : Option Value → pz_F → Prop} {v0 v1 : Value} : pz_R dA d 6 31 [v0, v1] st f Q = pz_R dA d 6 32 [v0, v1] (.int 0 :: st) f Q := pz_go (pz_so d6_31 rfl)
theorem d6_32 : decode (pz_b 6) 32 = .ok (.ireturn, 1) := by decide +kernel
theorem q6_32z {dA : Nat → ClassId} {d : Nat} {st : List Value} {f : pz_F} {Q : Option Value → pz_F → Prop} {v0 v1 : Value} : pz_R dA d 6 32 [v0, v1] [.int 0] f Q = Q (some (.int 0)) f := pz_gri d6_32 rfl rfl
theorem q6_32o {dA : Nat → ClassId} {d : Nat} {st : List Value} {f : pz_F} {Q : Option Value → pz_F → Prop} {v0 v1 : Value} : pz_R dA d 6 32 [v0, v1] [.int 1] f Q = Q (some (.int 1)) f := pz_gri d6_32 rfl rfl
theorem d6_33 : decode (pz_b 6) 33 = .ok (.aload_n 0, 1) := by decide +kernel
theorem q6_33 {dA : Nat → ClassId} {d : Nat} {st : List Value} {f : pz_F} {Q : Option Value → pz_F → Prop} {v1 : Value} {x : Nat} : pz_R dA d 6 33 [.ref x, v1] st f Q = pz_R dA d 6 34 [.ref x, v1] (.ref x :: st) f Q := pz_go (pz_so d6_33 rfl)
theorem d6_34 : decode (pz_b 6) 34 = .ok (.getfield 19, 3) := by decide +kernel
theorem q6_34 {dA : Nat → ClassId} {d : Nat} {st : List Value} {f : pz_F} {Q : Option Value → pz_F → Prop} {v0 v1 : Value} {a : Nat} : pz_R dA d 6 34 [v0, v1] (.ref a :: st) f Q = pz_o (pz_gf f a 0 2) (fun v => pz_R dA d 6 37 [v0, v1] (v :: st) f Q) := pz_gg d6_34 rfl
theorem d6_37 : decode (pz_b 6) 37 = .ok (.iload_n 1, 1) := by decide +kernel
theorem q6_37 {dA : Nat → ClassId} {d : Nat} {st : List Value} {f : pz_F} {Q : Option Value → pz_F → Prop} {v0 : Value} {x : Int32} : pz_R dA d 6 37 [v0, .int x] st f Q = pz_R dA d 6 38 [v0, .int x] (.int x :: st) f Q := pz_go (pz_so d6_37 rfl)
theorem d6_38 : decode (pz_b 6) 38 = .ok (.aaload, 1) := by decide +kernel
theorem q6_38 {dA : Nat → ClassId} {d : Nat} {st : List Value} {f : pz_F} {Q : Option Value → pz_F → Prop} {v0 v1 : Value} {i : Int32} {a : Nat} : pz_R dA d 6 38 [v0, v1] (.int i :: .ref a :: st) f Q = pz_o (pz_rl dA f a i) (fun v => pz_R dA d 6 39 [v0, v1] (v :: st) f Q) := pz_grl d6_38
theorem d6_39 : decode (pz_b 6) 39 = .ok (.iconst 0, 1) := by decide +kernel
theorem q6_39 {dA : Nat → ClassId} {d : Nat} {st : List Value} {f : pz_F} {Q : Option Value → pz_F → Prop} {v0 v1 : Value} : pz_R dA d 6 39 [v0, v1] st f Q = pz_R dA d 6 40 [v0, v1] (.int 0 :: st) f Q := pz_go (pz_so d6_39 rfl)
theorem d6_40 : decode (pz_b 6) 40 = .ok (.putfield 46, 3) := by decide +kernel
theorem q6_40 {dA : Nat → ClassId} {d : Nat} {st : List Value} {f : pz_F} {Q : Option Value → pz_F → Prop} {v0 v1 : Value} {x : Int32} {a : Nat} : pz_R dA d 6 40 [v0, v1] (.int x :: .ref a :: st) f Q = pz_o (pz_pf f a 1 2 (.int x)) (fun f' => pz_R dA d 6 43 [v0, v1] st f' Q) := pz_gp d6_40 rfl rfl rfl rfl
theorem d6_43 : decode (pz_b 6) 43 = .ok (.aload_n 0, 1) := by decide +kernel
theorem q6_43 {dA : Nat → ClassId} {d : Nat} {st : List Value} {f : pz_F} {Q : Option Value → pz_F → Prop} {v1 : Value} {x : Nat} : pz_R dA d 6 43 [.ref x, v1] st f Q = pz_R dA d 6 44 [.ref x, v1] (.ref x :: st) f Q := pz_go (pz_so d6_43 rfl)
theorem d6_44 : decode (pz_b 6) 44 = .ok (.getfield 36, 3) := by decide +kernel
theorem q6_44 {dA : Nat → ClassId} {d : Nat} {st : List Value} {f : pz_F} {Q : Option Value → pz_F → Prop} {v0 v1 : Value} {a : Nat} : pz_R dA d 6 44 [v0, v1] (.ref a :: st) f Q = pz_o (pz_gf f a 0 4) (fun v => pz_R dA d 6 47 [v0, v1] (v :: st) f Q) := pz_gg d6_44 rfl
theorem d6_47 : decode (pz_b 6) 47 = .ok (.invokevirtual 108, 3) := by decide +kernel
theorem q6_47 {dA : Nat → ClassId} {d : Nat} {st : List Value} {f : pz_F} {Q : Option Value → pz_F → Prop} {v0 v1 : Value} {b : Nat} (hr : st.length ≤ 4) : pz_R dA (d + 1) 6 47 [v0, v1] (.ref b :: st) f Q = pz_o (pz_gu f b 4) (fun _ => pz_C dA d 77 [.ref b] f (fun r f' => pz_R dA (d + 1) 6 50 [v0, v1] (r.toList ++ st) f' Q)) := pz_gcv (As := []) d6_47 rfl rfl rfl hr
theorem d6_50 : decode (pz_b 6) 50 = .ok (.iconst 1, 1) := by decide +kernel
theorem q6_50 {dA : Nat → ClassId} {d : Nat} {st : List Value} {f : pz_F} {Q : Option Value → pz_F → Prop} {v0 v1 : Value} : pz_R dA d 6 50 [v0, v1] st f Q = pz_R dA d 6 51 [v0, v1] (.int 1 :: st) f Q := pz_go (pz_so d6_50 rfl)
theorem d6_51 : decode (pz_b 6) 51 = .ok (.ireturn, 1) := by decide +kernel
theorem q6_51z {dA : Nat → ClassId} {d : Nat} {st : List Value} {f : pz_F} {Q : Option Value → pz_F → Prop} {v0 v1 : Value} : pz_R dA d 6 51 [v0, v1] [.int 0] f Q = Q (some (.int 0)) f := pz_gri d6_51 rfl rfl
theorem q6_51o {dA : Nat → ClassId} {d : Nat} {st : List Value} {f : pz_F} {Q : Option Value → pz_F → Prop} {v0 v1 : Value} : pz_R dA d 6 51 [v0, v1] [.int 1] f Q = Q (some (.int 1)) f := pz_gri d6_51 rfl rfl
/-! P_start (I)Z -/
theorem e7 {dA : Nat → ClassId} {d : Nat} {f : pz_F} {Q : Option Value → pz_F → Prop} {a0 : Nat} {a1 : Int32} : pz_C dA d 7 [.ref a0, .int a1] f Q = pz_R dA d 7 0 [.ref a0, .int a1] [] f Q := rfl
theorem d7_0 : decode (pz_b 7) 0 = .ok (.iload_n 1, 1) := by decide +kernel
theorem q7_0 {dA : Nat → ClassId} {d : Nat} {st : List Value} {f : pz_F} {Q : Option Value → pz_F → Prop} {v0 : Value} {x : Int32} : pz_R dA d 7 0 [v0, .int x] st f Q = pz_R dA d 7 1 [v0, .int x] (.int x :: st) f Q := pz_go (pz_so d7_0 rfl)
theorem d7_1 : decode (pz_b 7) 1 = .ok (.invokestatic 57, 3) := by decide +kernel
theorem q7_1 {dA : Nat → ClassId} {d : Nat} {st : List Value} {f : pz_F} {Q : Option Value → pz_F → Prop} {v0 v1 : Value} {c0 : Int32} (hr : st.length ≤ 4) : pz_R dA (d + 1) 7 1 [v0, v1] (.int c0 :: st) f Q = pz_C dA d 15 [.int c0] f (fun r f' => pz_R dA (d + 1) 7 4 [v0, v1] (r.toList ++ st) f' Q) := pz_gcs (As := [.int c0]) d7_1 rfl rfl rfl hr
theorem d7_4 : decode (pz_b 7) 4 = .ok (.ifCond .eq 22, 3) := by decide +kernel
theorem q7_4 {dA : Nat → ClassId} {d : Nat} {st : List Value} {f : pz_F} {Q : Option Value → pz_F → Prop} {v0 v1 : Value} {x : Int32} : pz_R dA d 7 4 [v0, v1] (.int x :: st) f Q = (if x = 0 then pz_R dA d 7 26 [v0, v1] st f Q else pz_R dA d 7 7 [v0, v1] st f Q) := pz_gj1 .eq d7_4 rfl
theorem d7_7 : decode (pz_b 7) 7 = .ok (.aload_n 0, 1) := by decide +kernel
theorem q7_7 {dA : Nat → ClassId} {d : Nat} {st : List Value} {f : pz_F} {Q : Option Value → pz_F → Prop} {v1 : Value} {x : Nat} : pz_R dA d 7 7 [.ref x, v1] st f Q = pz_R dA d 7 8 [.ref x, v1] (.ref x :: st) f Q := pz_go (pz_so d7_7 rfl)
theorem d7_8 : decode (pz_b 7) 8 = .ok (.getfield 19, 3) := by decide +kernel
theorem q7_8 {dA : Nat → ClassId} {d : Nat} {st : List Value} {f : pz_F} {Q : Option Value → pz_F → Prop} {v0 v1 : Value} {a : Nat} : pz_R dA d 7 8 [v0, v1] (.ref a :: st) f Q = pz_o (pz_gf f a 0 2) (fun v => pz_R dA d 7 11 [v0, v1] (v :: st) f Q) := pz_gg d7_8 rfl
theorem d7_11 : decode (pz_b 7) 11 = .ok (.iload_n 1, 1) := by decide +kernel
theorem q7_11 {dA : Nat → ClassId} {d : Nat} {st : List Value} {f : pz_F} {Q : Option Value → pz_F → Prop} {v0 : Value} {x : Int32} : pz_R dA d 7 11 [v0, .int x] st f Q = pz_R dA d 7 12 [v0, .int x] (.int x :: st) f Q := pz_go (pz_so d7_11 rfl)
theorem d7_12 : decode (pz_b 7) 12 = .ok (.aaload, 1) := by decide +kernel
theorem q7_12 {dA : Nat → ClassId} {d : Nat} {st : List Value} {f : pz_F} {Q : Option Value → pz_F → Prop} {v0 v1 : Value} {i : Int32} {a : Nat} : pz_R dA d 7 12 [v0, v1] (.int i :: .ref a :: st) f Q = pz_o (pz_rl dA f a i) (fun v => pz_R dA d 7 13 [v0, v1] (v :: st) f Q) := pz_grl d7_12
theorem d7_13 : decode (pz_b 7) 13 = .ok (.getfield 46, 3) := by decide +kernel
theorem q7_13 {dA : Nat → ClassId} {d : Nat} {st : List Value} {f : pz_F} {Q : Option Value → pz_F → Prop} {v0 v1 : Value} {a : Nat} : pz_R dA d 7 13 [v0, v1] (.ref a :: st) f Q = pz_o (pz_gf f a 1 2) (fun v => pz_R dA d 7 16 [v0, v1] (v :: st) f Q) := pz_gg d7_13 rfl
theorem d7_16 : decode (pz_b 7) 16 = .ok (.ifCond .ne 10, 3) := by decide +kernel
theorem q7_16 {dA : Nat → ClassId} {d : Nat} {st : List Value} {f : pz_F} {Q : Option Value → pz_F → Prop} {v0 v1 : Value} {x : Int32} : pz_R dA d 7 16 [v0, v1] (.int x :: st) f Q = (if x = 0 then pz_R dA d 7 19 [v0, v1] st f Q else pz_R dA d 7 26 [v0, v1] st f Q) := pz_gj1 .ne d7_16 rfl
theorem d7_19 : decode (pz_b 7) 19 = .ok (.aload_n 0, 1) := by decide +kernel
theorem q7_19 {dA : Nat → ClassId} {d : Nat} {st : List Value} {f : pz_F} {Q : Option Value → pz_F → Prop} {v1 : Value} {x : Nat} : pz_R dA d 7 19 [.ref x, v1] st f Q = pz_R dA d 7 20 [.ref x, v1] (.ref x :: st) f Q := pz_go (pz_so d7_19 rfl)
theorem d7_20 : decode (pz_b 7) 20 = .ok (.getfield 13, 3) := by decide +kernel
theorem q7_20 {dA : Nat → ClassId} {d : Nat} {st : List Value} {f : pz_F} {Q : Option Value → pz_F → Prop} {v0 v1 : Value} {a : Nat} : pz_R dA d 7 20 [v0, v1] (.ref a :: st) f Q = pz_o (pz_gf f a 0 1) (fun v => pz_R dA d 7 23 [v0, v1] (v :: st) f Q) := pz_gg d7_20 rfl
theorem d7_23 : decode (pz_b 7) 23 = .ok (.ifCond .ne 5, 3) := by decide +kernel
theorem q7_23 {dA : Nat → ClassId} {d : Nat} {st : List Value} {f : pz_F} {Q : Option Value → pz_F → Prop} {v0 v1 : Value} {x : Int32} : pz_R dA d 7 23 [v0, v1] (.int x :: st) f Q = (if x = 0 then pz_R dA d 7 26 [v0, v1] st f Q else pz_R dA d 7 28 [v0, v1] st f Q) := pz_gj1 .ne d7_23 rfl
theorem d7_26 : decode (pz_b 7) 26 = .ok (.iconst 0, 1) := by decide +kernel
theorem q7_26 {dA : Nat → ClassId} {d : Nat} {st : List Value} {f : pz_F} {Q : Option Value → pz_F → Prop} {v0 v1 : Value} : pz_R dA d 7 26 [v0, v1] st f Q = pz_R dA d 7 27 [v0, v1] (.int 0 :: st) f Q := pz_go (pz_so d7_26 rfl)
theorem d7_27 : decode (pz_b 7) 27 = .ok (.ireturn, 1) := by decide +kernel
theorem q7_27z {dA : Nat → ClassId} {d : Nat} {st : List Value} {f : pz_F} {Q : Option Value → pz_F → Prop} {v0 v1 : Value} : pz_R dA d 7 27 [v0, v1] [.int 0] f Q = Q (some (.int 0)) f := pz_gri d7_27 rfl rfl
theorem q7_27o {dA : Nat → ClassId} {d : Nat} {st : List Value} {f : pz_F} {Q : Option Value → pz_F → Prop} {v0 v1 : Value} : pz_R dA d 7 27 [v0, v1] [.int 1] f Q = Q (some (.int 1)) f := pz_gri d7_27 rfl rfl
theorem d7_28 : decode (pz_b 7) 28 = .ok (.aload_n 0, 1) := by decide +kernel
theorem q7_28 {dA : Nat → ClassId} {d : Nat} {st : List Value} {f : pz_F} {Q : Option Value → pz_F → Prop} {v1 : Value} {x : Nat} : pz_R dA d 7 28 [.ref x, v1] st f Q = pz_R dA d 7 29 [.ref x, v1] (.ref x :: st) f Q := pz_go (pz_so d7_28 rfl)
theorem d7_29 : decode (pz_b 7) 29 = .ok (.getfield 19, 3) := by decide +kernel
theorem q7_29 {dA : Nat → ClassId} {d : Nat} {st : List Value} {f : pz_F} {Q : Option Value → pz_F → Prop} {v0 v1 : Value} {a : Nat} : pz_R dA d 7 29 [v0, v1] (.ref a :: st) f Q = pz_o (pz_gf f a 0 2) (fun v => pz_R dA d 7 32 [v0, v1] (v :: st) f Q) := pz_gg d7_29 rfl
theorem d7_32 : decode (pz_b 7) 32 = .ok (.iload_n 1, 1) := by decide +kernel
theorem q7_32 {dA : Nat → ClassId} {d : Nat} {st : List Value} {f : pz_F} {Q : Option Value → pz_F → Prop} {v0 : Value} {x : Int32} : pz_R dA d 7 32 [v0, .int x] st f Q = pz_R dA d 7 33 [v0, .int x] (.int x :: st) f Q := pz_go (pz_so d7_32 rfl)
theorem d7_33 : decode (pz_b 7) 33 = .ok (.aaload, 1) := by decide +kernel
theorem q7_33 {dA : Nat → ClassId} {d : Nat} {st : List Value} {f : pz_F} {Q : Option Value → pz_F → Prop} {v0 v1 : Value} {i : Int32} {a : Nat} : pz_R dA d 7 33 [v0, v1] (.int i :: .ref a :: st) f Q = pz_o (pz_rl dA f a i) (fun v => pz_R dA d 7 34 [v0, v1] (v :: st) f Q) := pz_grl d7_33
theorem d7_34 : decode (pz_b 7) 34 = .ok (.aload_n 0, 1) := by decide +kernel
theorem q7_34 {dA : Nat → ClassId} {d : Nat} {st : List Value} {f : pz_F} {Q : Option Value → pz_F → Prop} {v1 : Value} {x : Nat} : pz_R dA d 7 34 [.ref x, v1] st f Q = pz_R dA d 7 35 [.ref x, v1] (.ref x :: st) f Q := pz_go (pz_so d7_34 rfl)
theorem d7_35 : decode (pz_b 7) 35 = .ok (.getfield 7, 3) := by decide +kernel
theorem q7_35 {dA : Nat → ClassId} {d : Nat} {st : List Value} {f : pz_F} {Q : Option Value → pz_F → Prop} {v0 v1 : Value} {a : Nat} : pz_R dA d 7 35 [v0, v1] (.ref a :: st) f Q = pz_o (pz_gf f a 0 0) (fun v => pz_R dA d 7 38 [v0, v1] (v :: st) f Q) := pz_gg d7_35 rfl
theorem d7_38 : decode (pz_b 7) 38 = .ok (.invokevirtual 111, 3) := by decide +kernel
theorem q7_38 {dA : Nat → ClassId} {d : Nat} {st : List Value} {f : pz_F} {Q : Option Value → pz_F → Prop} {v0 v1 : Value} {c0 : Int32} {b : Nat} (hr : st.length ≤ 4) : pz_R dA (d + 1) 7 38 [v0, v1] (.int c0 :: .ref b :: st) f Q = pz_o (pz_gu f b 1) (fun _ => pz_C dA d 39 [.ref b, .int c0] f (fun r f' => pz_R dA (d + 1) 7 41 [v0, v1] (r.toList ++ st) f' Q)) := pz_gcv (As := [.int c0]) d7_38 rfl rfl rfl hr
theorem d7_41 : decode (pz_b 7) 41 = .ok (.iconst 1, 1) := by decide +kernel
theorem q7_41 {dA : Nat → ClassId} {d : Nat} {st : List Value} {f : pz_F} {Q : Option Value → pz_F → Prop} {v0 v1 : Value} : pz_R dA d 7 41 [v0, v1] st f Q = pz_R dA d 7 42 [v0, v1] (.int 1 :: st) f Q := pz_go (pz_so d7_41 rfl)
theorem d7_42 : decode (pz_b 7) 42 = .ok (.ireturn, 1) := by decide +kernel
theorem q7_42z {dA : Nat → ClassId} {d : Nat} {st : List Value} {f : pz_F} {Q : Option Value → pz_F → Prop} {v0 v1 : Value} : pz_R dA d 7 42 [v0, v1] [.int 0] f Q = Q (some (.int 0)) f := pz_gri d7_42 rfl rfl
theorem q7_42o {dA : Nat → ClassId} {d : Nat} {st : List Value} {f : pz_F} {Q : Option Value → pz_F → Prop} {v0 v1 : Value} : pz_R dA d 7 42 [v0, v1] [.int 1] f Q = Q (some (.int 1)) f := pz_gri d7_42 rfl rfl
/-! P_alone (I)Z -/
theorem e8 {dA : Nat → ClassId} {d : Nat} {f : pz_F} {Q : Option Value → pz_F → Prop} {a0 : Nat} {a1 : Int32} : pz_C dA d 8 [.ref a0, .int a1] f Q = pz_R dA d 8 0 [.ref a0, .int a1, .retAddr 0] [] f Q := rfl
theorem d8_0 : decode (pz_b 8) 0 = .ok (.iload_n 1, 1) := by decide +kernel
theorem q8_0 {dA : Nat → ClassId} {d : Nat} {st : List Value} {f : pz_F} {Q : Option Value → pz_F → Prop} {v0 v2 : Value} {x : Int32} : pz_R dA d 8 0 [v0, .int x, v2] st f Q = pz_R dA d 8 1 [v0, .int x, v2] (.int x :: st) f Q := pz_go (pz_so d8_0 rfl)
theorem d8_1 : decode (pz_b 8) 1 = .ok (.invokestatic 57, 3) := by decide +kernel
theorem q8_1 {dA : Nat → ClassId} {d : Nat} {st : List Value} {f : pz_F} {Q : Option Value → pz_F → Prop} {v0 v1 v2 : Value} {c0 : Int32} (hr : st.length ≤ 4) : pz_R dA (d + 1) 8 1 [v0, v1, v2] (.int c0 :: st) f Q = pz_C dA d 15 [.int c0] f (fun r f' => pz_R dA (d + 1) 8 4 [v0, v1, v2] (r.toList ++ st) f' Q) := pz_gcs (As := [.int c0]) d8_1 rfl rfl rfl hr
theorem d8_4 : decode (pz_b 8) 4 = .ok (.ifCond .eq 19, 3) := by decide +kernel
theorem q8_4 {dA : Nat → ClassId} {d : Nat} {st : List Value} {f : pz_F} {Q : Option Value → pz_F → Prop} {v0 v1 v2 : Value} {x : Int32} : pz_R dA d 8 4 [v0, v1, v2] (.int x :: st) f Q = (if x = 0 then pz_R dA d 8 23 [v0, v1, v2] st f Q else pz_R dA d 8 7 [v0, v1, v2] st f Q) := pz_gj1 .eq d8_4 rfl
theorem d8_7 : decode (pz_b 8) 7 = .ok (.aload_n 0, 1) := by decide +kernel
theorem q8_7 {dA : Nat → ClassId} {d : Nat} {st : List Value} {f : pz_F} {Q : Option Value → pz_F → Prop} {v1 v2 : Value} {x : Nat} : pz_R dA d 8 7 [.ref x, v1, v2] st f Q = pz_R dA d 8 8 [.ref x, v1, v2] (.ref x :: st) f Q := pz_go (pz_so d8_7 rfl)
theorem d8_8 : decode (pz_b 8) 8 = .ok (.aload_n 0, 1) := by decide +kernel
theorem q8_8 {dA : Nat → ClassId} {d : Nat} {st : List Value} {f : pz_F} {Q : Option Value → pz_F → Prop} {v1 v2 : Value} {x : Nat} : pz_R dA d 8 8 [.ref x, v1, v2] st f Q = pz_R dA d 8 9 [.ref x, v1, v2] (.ref x :: st) f Q := pz_go (pz_so d8_8 rfl)
theorem d8_9 : decode (pz_b 8) 9 = .ok (.getfield 19, 3) := by decide +kernel
theorem q8_9 {dA : Nat → ClassId} {d : Nat} {st : List Value} {f : pz_F} {Q : Option Value → pz_F → Prop} {v0 v1 v2 : Value} {a : Nat} : pz_R dA d 8 9 [v0, v1, v2] (.ref a :: st) f Q = pz_o (pz_gf f a 0 2) (fun v => pz_R dA d 8 12 [v0, v1, v2] (v :: st) f Q) := pz_gg d8_9 rfl
theorem d8_12 : decode (pz_b 8) 12 = .ok (.iload_n 1, 1) := by decide +kernel
theorem q8_12 {dA : Nat → ClassId} {d : Nat} {st : List Value} {f : pz_F} {Q : Option Value → pz_F → Prop} {v0 v2 : Value} {x : Int32} : pz_R dA d 8 12 [v0, .int x, v2] st f Q = pz_R dA d 8 13 [v0, .int x, v2] (.int x :: st) f Q := pz_go (pz_so d8_12 rfl)
theorem d8_13 : decode (pz_b 8) 13 = .ok (.aaload, 1) := by decide +kernel
theorem q8_13 {dA : Nat → ClassId} {d : Nat} {st : List Value} {f : pz_F} {Q : Option Value → pz_F → Prop} {v0 v1 v2 : Value} {i : Int32} {a : Nat} : pz_R dA d 8 13 [v0, v1, v2] (.int i :: .ref a :: st) f Q = pz_o (pz_rl dA f a i) (fun v => pz_R dA d 8 14 [v0, v1, v2] (v :: st) f Q) := pz_grl d8_13
theorem d8_14 : decode (pz_b 8) 14 = .ok (.invokevirtual 114, 3) := by decide +kernel
theorem q8_14 {dA : Nat → ClassId} {d : Nat} {st : List Value} {f : pz_F} {Q : Option Value → pz_F → Prop} {v0 v1 v2 : Value} {c0 : Nat} {b : Nat} (hr : st.length ≤ 4) : pz_R dA (d + 1) 8 14 [v0, v1, v2] (.ref c0 :: .ref b :: st) f Q = pz_o (pz_gu f b 0) (fun _ => pz_C dA d 18 [.ref b, .ref c0] f (fun r f' => pz_R dA (d + 1) 8 17 [v0, v1, v2] (r.toList ++ st) f' Q)) := pz_gcv (As := [.ref c0]) d8_14 rfl rfl rfl hr
theorem d8_17 : decode (pz_b 8) 17 = .ok (.getfield 46, 3) := by decide +kernel
theorem q8_17 {dA : Nat → ClassId} {d : Nat} {st : List Value} {f : pz_F} {Q : Option Value → pz_F → Prop} {v0 v1 v2 : Value} {a : Nat} : pz_R dA d 8 17 [v0, v1, v2] (.ref a :: st) f Q = pz_o (pz_gf f a 1 2) (fun v => pz_R dA d 8 20 [v0, v1, v2] (v :: st) f Q) := pz_gg d8_17 rfl
theorem d8_20 : decode (pz_b 8) 20 = .ok (.ifCond .eq 5, 3) := by decide +kernel
theorem q8_20 {dA : Nat → ClassId} {d : Nat} {st : List Value} {f : pz_F} {Q : Option Value → pz_F → Prop} {v0 v1 v2 : Value} {x : Int32} : pz_R dA d 8 20 [v0, v1, v2] (.int x :: st) f Q = (if x = 0 then pz_R dA d 8 25 [v0, v1, v2] st f Q else pz_R dA d 8 23 [v0, v1, v2] st f Q) := pz_gj1 .eq d8_20 rfl
theorem d8_23 : decode (pz_b 8) 23 = .ok (.iconst 0, 1) := by decide +kernel
theorem q8_23 {dA : Nat → ClassId} {d : Nat} {st : List Value} {f : pz_F} {Q : Option Value → pz_F → Prop} {v0 v1 v2 : Value} : pz_R dA d 8 23 [v0, v1, v2] st f Q = pz_R dA d 8 24 [v0, v1, v2] (.int 0 :: st) f Q := pz_go (pz_so d8_23 rfl)
theorem d8_24 : decode (pz_b 8) 24 = .ok (.ireturn, 1) := by decide +kernel
theorem q8_24z {dA : Nat → ClassId} {d : Nat} {st : List Value} {f : pz_F} {Q : Option Value → pz_F → Prop} {v0 v1 v2 : Value} : pz_R dA d 8 24 [v0, v1, v2] [.int 0] f Q = Q (some (.int 0)) f := pz_gri d8_24 rfl rfl
theorem q8_24o {dA : Nat → ClassId} {d : Nat} {st : List Value} {f : pz_F} {Q : Option Value → pz_F → Prop} {v0 v1 v2 : Value} : pz_R dA d 8 24 [v0, v1, v2] [.int 1] f Q = Q (some (.int 1)) f := pz_gri d8_24 rfl rfl
theorem d8_25 : decode (pz_b 8) 25 = .ok (.aload_n 0, 1) := by decide +kernel
theorem q8_25 {dA : Nat → ClassId} {d : Nat} {st : List Value} {f : pz_F} {Q : Option Value → pz_F → Prop} {v1 v2 : Value} {x : Nat} : pz_R dA d 8 25 [.ref x, v1, v2] st f Q = pz_R dA d 8 26 [.ref x, v1, v2] (.ref x :: st) f Q := pz_go (pz_so d8_25 rfl)
theorem d8_26 : decode (pz_b 8) 26 = .ok (.getfield 19, 3) := by decide +kernel
theorem q8_26 {dA : Nat → ClassId} {d : Nat} {st : List Value} {f : pz_F} {Q : Option Value → pz_F → Prop} {v0 v1 v2 : Value} {a : Nat} : pz_R dA d 8 26 [v0, v1, v2] (.ref a :: st) f Q = pz_o (pz_gf f a 0 2) (fun v => pz_R dA d 8 29 [v0, v1, v2] (v :: st) f Q) := pz_gg d8_26 rfl
theorem d8_29 : decode (pz_b 8) 29 = .ok (.iload_n 1, 1) := by decide +kernel
theorem q8_29 {dA : Nat → ClassId} {d : Nat} {st : List Value} {f : pz_F} {Q : Option Value → pz_F → Prop} {v0 v2 : Value} {x : Int32} : pz_R dA d 8 29 [v0, .int x, v2] st f Q = pz_R dA d 8 30 [v0, .int x, v2] (.int x :: st) f Q := pz_go (pz_so d8_29 rfl)
theorem d8_30 : decode (pz_b 8) 30 = .ok (.aaload, 1) := by decide +kernel
theorem q8_30 {dA : Nat → ClassId} {d : Nat} {st : List Value} {f : pz_F} {Q : Option Value → pz_F → Prop} {v0 v1 v2 : Value} {i : Int32} {a : Nat} : pz_R dA d 8 30 [v0, v1, v2] (.int i :: .ref a :: st) f Q = pz_o (pz_rl dA f a i) (fun v => pz_R dA d 8 31 [v0, v1, v2] (v :: st) f Q) := pz_grl d8_30
theorem d8_31 : decode (pz_b 8) 31 = .ok (.astore_n 2, 1) := by decide +kernel
theorem q8_31 {dA : Nat → ClassId} {d : Nat} {st : List Value} {f : pz_F} {Q : Option Value → pz_F → Prop} {v0 v1 v2 : Value} {x : Nat} : pz_R dA d 8 31 [v0, v1, v2] (.ref x :: st) f Q = pz_R dA d 8 32 [v0, v1, .ref x] st f Q := pz_go (pz_so d8_31 rfl)
theorem q8_31n {dA : Nat → ClassId} {d : Nat} {st : List Value} {f : pz_F} {Q : Option Value → pz_F → Prop} {v0 v1 v2 : Value} : pz_R dA d 8 31 [v0, v1, v2] (.null :: st) f Q = pz_R dA d 8 32 [v0, v1, .null] st f Q := pz_go (pz_so d8_31 rfl)
theorem d8_32 : decode (pz_b 8) 32 = .ok (.aload_n 2, 1) := by decide +kernel
theorem q8_32 {dA : Nat → ClassId} {d : Nat} {st : List Value} {f : pz_F} {Q : Option Value → pz_F → Prop} {v0 v1 : Value} {x : Nat} : pz_R dA d 8 32 [v0, v1, .ref x] st f Q = pz_R dA d 8 33 [v0, v1, .ref x] (.ref x :: st) f Q := pz_go (pz_so d8_32 rfl)
theorem q8_32n {dA : Nat → ClassId} {d : Nat} {st : List Value} {f : pz_F} {Q : Option Value → pz_F → Prop} {v0 v1 : Value} : pz_R dA d 8 32 [v0, v1, .null] st f Q = pz_R dA d 8 33 [v0, v1, .null] (.null :: st) f Q := pz_go (pz_so d8_32 rfl)
theorem d8_33 : decode (pz_b 8) 33 = .ok (.getfield 46, 3) := by decide +kernel
theorem q8_33 {dA : Nat → ClassId} {d : Nat} {st : List Value} {f : pz_F} {Q : Option Value → pz_F → Prop} {v0 v1 v2 : Value} {a : Nat} : pz_R dA d 8 33 [v0, v1, v2] (.ref a :: st) f Q = pz_o (pz_gf f a 1 2) (fun v => pz_R dA d 8 36 [v0, v1, v2] (v :: st) f Q) := pz_gg d8_33 rfl
theorem d8_36 : decode (pz_b 8) 36 = .ok (.iconst 1, 1) := by decide +kernel
theorem q8_36 {dA : Nat → ClassId} {d : Nat} {st : List Value} {f : pz_F} {Q : Option Value → pz_F → Prop} {v0 v1 v2 : Value} : pz_R dA d 8 36 [v0, v1, v2] st f Q = pz_R dA d 8 37 [v0, v1, v2] (.int 1 :: st) f Q := pz_go (pz_so d8_36 rfl)
theorem d8_37 : decode (pz_b 8) 37 = .ok (.if_icmp .eq 13, 3) := by decide +kernel
theorem q8_37 {dA : Nat → ClassId} {d : Nat} {st : List Value} {f : pz_F} {Q : Option Value → pz_F → Prop} {v0 v1 v2 : Value} {x y : Int32} : pz_R dA d 8 37 [v0, v1, v2] (.int y :: .int x :: st) f Q = (if x = y then pz_R dA d 8 50 [v0, v1, v2] st f Q else pz_R dA d 8 40 [v0, v1, v2] st f Q) := pz_gjn .eq d8_37 rfl
theorem d8_40 : decode (pz_b 8) 40 = .ok (.aload_n 2, 1) := by decide +kernel
theorem q8_40 {dA : Nat → ClassId} {d : Nat} {st : List Value} {f : pz_F} {Q : Option Value → pz_F → Prop} {v0 v1 : Value} {x : Nat} : pz_R dA d 8 40 [v0, v1, .ref x] st f Q = pz_R dA d 8 41 [v0, v1, .ref x] (.ref x :: st) f Q := pz_go (pz_so d8_40 rfl)
theorem q8_40n {dA : Nat → ClassId} {d : Nat} {st : List Value} {f : pz_F} {Q : Option Value → pz_F → Prop} {v0 v1 : Value} : pz_R dA d 8 40 [v0, v1, .null] st f Q = pz_R dA d 8 41 [v0, v1, .null] (.null :: st) f Q := pz_go (pz_so d8_40 rfl)
theorem d8_41 : decode (pz_b 8) 41 = .ok (.getfield 46, 3) := by decide +kernel
theorem q8_41 {dA : Nat → ClassId} {d : Nat} {st : List Value} {f : pz_F} {Q : Option Value → pz_F → Prop} {v0 v1 v2 : Value} {a : Nat} : pz_R dA d 8 41 [v0, v1, v2] (.ref a :: st) f Q = pz_o (pz_gf f a 1 2) (fun v => pz_R dA d 8 44 [v0, v1, v2] (v :: st) f Q) := pz_gg d8_41 rfl
theorem d8_44 : decode (pz_b 8) 44 = .ok (.iconst 2, 1) := by decide +kernel
theorem q8_44 {dA : Nat → ClassId} {d : Nat} {st : List Value} {f : pz_F} {Q : Option Value → pz_F → Prop} {v0 v1 v2 : Value} : pz_R dA d 8 44 [v0, v1, v2] st f Q = pz_R dA d 8 45 [v0, v1, v2] (.int 2 :: st) f Q := pz_go (pz_so d8_44 rfl)
theorem d8_45 : decode (pz_b 8) 45 = .ok (.if_icmp .eq 5, 3) := by decide +kernel
theorem q8_45 {dA : Nat → ClassId} {d : Nat} {st : List Value} {f : pz_F} {Q : Option Value → pz_F → Prop} {v0 v1 v2 : Value} {x y : Int32} : pz_R dA d 8 45 [v0, v1, v2] (.int y :: .int x :: st) f Q = (if x = y then pz_R dA d 8 50 [v0, v1, v2] st f Q else pz_R dA d 8 48 [v0, v1, v2] st f Q) := pz_gjn .eq d8_45 rfl
theorem d8_48 : decode (pz_b 8) 48 = .ok (.iconst 0, 1) := by decide +kernel
theorem q8_48 {dA : Nat → ClassId} {d : Nat} {st : List Value} {f : pz_F} {Q : Option Value → pz_F → Prop} {v0 v1 v2 : Value} : pz_R dA d 8 48 [v0, v1, v2] st f Q = pz_R dA d 8 49 [v0, v1, v2] (.int 0 :: st) f Q := pz_go (pz_so d8_48 rfl)
theorem d8_49 : decode (pz_b 8) 49 = .ok (.ireturn, 1) := by decide +kernel
theorem q8_49z {dA : Nat → ClassId} {d : Nat} {st : List Value} {f : pz_F} {Q : Option Value → pz_F → Prop} {v0 v1 v2 : Value} : pz_R dA d 8 49 [v0, v1, v2] [.int 0] f Q = Q (some (.int 0)) f := pz_gri d8_49 rfl rfl
theorem q8_49o {dA : Nat → ClassId} {d : Nat} {st : List Value} {f : pz_F} {Q : Option Value → pz_F → Prop} {v0 v1 v2 : Value} : pz_R dA d 8 49 [v0, v1, v2] [.int 1] f Q = Q (some (.int 1)) f := pz_gri d8_49 rfl rfl
theorem d8_50 : decode (pz_b 8) 50 = .ok (.aload_n 2, 1) := by decide +kernel
theorem q8_50 {dA : Nat → ClassId} {d : Nat} {st : List Value} {f : pz_F} {Q : Option Value → pz_F → Prop} {v0 v1 : Value} {x : Nat} : pz_R dA d 8 50 [v0, v1, .ref x] st f Q = pz_R dA d 8 51 [v0, v1, .ref x] (.ref x :: st) f Q := pz_go (pz_so d8_50 rfl)
theorem q8_50n {dA : Nat → ClassId} {d : Nat} {st : List Value} {f : pz_F} {Q : Option Value → pz_F → Prop} {v0 v1 : Value} : pz_R dA d 8 50 [v0, v1, .null] st f Q = pz_R dA d 8 51 [v0, v1, .null] (.null :: st) f Q := pz_go (pz_so d8_50 rfl)
theorem d8_51 : decode (pz_b 8) 51 = .ok (.iconst 3, 1) := by decide +kernel
theorem q8_51 {dA : Nat → ClassId} {d : Nat} {st : List Value} {f : pz_F} {Q : Option Value → pz_F → Prop} {v0 v1 v2 : Value} : pz_R dA d 8 51 [v0, v1, v2] st f Q = pz_R dA d 8 52 [v0, v1, v2] (.int 3 :: st) f Q := pz_go (pz_so d8_51 rfl)
theorem d8_52 : decode (pz_b 8) 52 = .ok (.putfield 46, 3) := by decide +kernel
theorem q8_52 {dA : Nat → ClassId} {d : Nat} {st : List Value} {f : pz_F} {Q : Option Value → pz_F → Prop} {v0 v1 v2 : Value} {x : Int32} {a : Nat} : pz_R dA d 8 52 [v0, v1, v2] (.int x :: .ref a :: st) f Q = pz_o (pz_pf f a 1 2 (.int x)) (fun f' => pz_R dA d 8 55 [v0, v1, v2] st f' Q) := pz_gp d8_52 rfl rfl rfl rfl
theorem d8_55 : decode (pz_b 8) 55 = .ok (.aload_n 2, 1) := by decide +kernel
theorem q8_55 {dA : Nat → ClassId} {d : Nat} {st : List Value} {f : pz_F} {Q : Option Value → pz_F → Prop} {v0 v1 : Value} {x : Nat} : pz_R dA d 8 55 [v0, v1, .ref x] st f Q = pz_R dA d 8 56 [v0, v1, .ref x] (.ref x :: st) f Q := pz_go (pz_so d8_55 rfl)
theorem q8_55n {dA : Nat → ClassId} {d : Nat} {st : List Value} {f : pz_F} {Q : Option Value → pz_F → Prop} {v0 v1 : Value} : pz_R dA d 8 55 [v0, v1, .null] st f Q = pz_R dA d 8 56 [v0, v1, .null] (.null :: st) f Q := pz_go (pz_so d8_55 rfl)
theorem d8_56 : decode (pz_b 8) 56 = .ok (.aload_n 0, 1) := by decide +kernel
theorem q8_56 {dA : Nat → ClassId} {d : Nat} {st : List Value} {f : pz_F} {Q : Option Value → pz_F → Prop} {v1 v2 : Value} {x : Nat} : pz_R dA d 8 56 [.ref x, v1, v2] st f Q = pz_R dA d 8 57 [.ref x, v1, v2] (.ref x :: st) f Q := pz_go (pz_so d8_56 rfl)
theorem d8_57 : decode (pz_b 8) 57 = .ok (.getfield 7, 3) := by decide +kernel
theorem q8_57 {dA : Nat → ClassId} {d : Nat} {st : List Value} {f : pz_F} {Q : Option Value → pz_F → Prop} {v0 v1 v2 : Value} {a : Nat} : pz_R dA d 8 57 [v0, v1, v2] (.ref a :: st) f Q = pz_o (pz_gf f a 0 0) (fun v => pz_R dA d 8 60 [v0, v1, v2] (v :: st) f Q) := pz_gg d8_57 rfl
theorem d8_60 : decode (pz_b 8) 60 = .ok (.putfield 118, 3) := by decide +kernel
theorem q8_60 {dA : Nat → ClassId} {d : Nat} {st : List Value} {f : pz_F} {Q : Option Value → pz_F → Prop} {v0 v1 v2 : Value} {x : Int32} {a : Nat} : pz_R dA d 8 60 [v0, v1, v2] (.int x :: .ref a :: st) f Q = pz_o (pz_pf f a 1 3 (.int x)) (fun f' => pz_R dA d 8 63 [v0, v1, v2] st f' Q) := pz_gp d8_60 rfl rfl rfl rfl
theorem d8_63 : decode (pz_b 8) 63 = .ok (.iconst 1, 1) := by decide +kernel
theorem q8_63 {dA : Nat → ClassId} {d : Nat} {st : List Value} {f : pz_F} {Q : Option Value → pz_F → Prop} {v0 v1 v2 : Value} : pz_R dA d 8 63 [v0, v1, v2] st f Q = pz_R dA d 8 64 [v0, v1, v2] (.int 1 :: st) f Q := pz_go (pz_so d8_63 rfl)
theorem d8_64 : decode (pz_b 8) 64 = .ok (.ireturn, 1) := by decide +kernel
theorem q8_64z {dA : Nat → ClassId} {d : Nat} {st : List Value} {f : pz_F} {Q : Option Value → pz_F → Prop} {v0 v1 v2 : Value} : pz_R dA d 8 64 [v0, v1, v2] [.int 0] f Q = Q (some (.int 0)) f := pz_gri d8_64 rfl rfl
theorem q8_64o {dA : Nat → ClassId} {d : Nat} {st : List Value} {f : pz_F} {Q : Option Value → pz_F → Prop} {v0 v1 v2 : Value} : pz_R dA d 8 64 [v0, v1, v2] [.int 1] f Q = Q (some (.int 1)) f := pz_gri d8_64 rfl rfl
/-! P_link (Z)Z -/
theorem e9 {dA : Nat → ClassId} {d : Nat} {f : pz_F} {Q : Option Value → pz_F → Prop} {a0 : Nat} {a1 : Int32} : pz_C dA d 9 [.ref a0, .int a1] f Q = pz_R dA d 9 0 [.ref a0, .int a1] [] f Q := rfl
theorem d9_0 : decode (pz_b 9) 0 = .ok (.aload_n 0, 1) := by decide +kernel
theorem q9_0 {dA : Nat → ClassId} {d : Nat} {st : List Value} {f : pz_F} {Q : Option Value → pz_F → Prop} {v1 : Value} {x : Nat} : pz_R dA d 9 0 [.ref x, v1] st f Q = pz_R dA d 9 1 [.ref x, v1] (.ref x :: st) f Q := pz_go (pz_so d9_0 rfl)
theorem d9_1 : decode (pz_b 9) 1 = .ok (.getfield 13, 3) := by decide +kernel
theorem q9_1 {dA : Nat → ClassId} {d : Nat} {st : List Value} {f : pz_F} {Q : Option Value → pz_F → Prop} {v0 v1 : Value} {a : Nat} : pz_R dA d 9 1 [v0, v1] (.ref a :: st) f Q = pz_o (pz_gf f a 0 1) (fun v => pz_R dA d 9 4 [v0, v1] (v :: st) f Q) := pz_gg d9_1 rfl
theorem d9_4 : decode (pz_b 9) 4 = .ok (.iload_n 1, 1) := by decide +kernel
theorem q9_4 {dA : Nat → ClassId} {d : Nat} {st : List Value} {f : pz_F} {Q : Option Value → pz_F → Prop} {v0 : Value} {x : Int32} : pz_R dA d 9 4 [v0, .int x] st f Q = pz_R dA d 9 5 [v0, .int x] (.int x :: st) f Q := pz_go (pz_so d9_4 rfl)
theorem d9_5 : decode (pz_b 9) 5 = .ok (.if_icmp .ne 5, 3) := by decide +kernel
theorem q9_5 {dA : Nat → ClassId} {d : Nat} {st : List Value} {f : pz_F} {Q : Option Value → pz_F → Prop} {v0 v1 : Value} {x y : Int32} : pz_R dA d 9 5 [v0, v1] (.int y :: .int x :: st) f Q = (if x = y then pz_R dA d 9 8 [v0, v1] st f Q else pz_R dA d 9 10 [v0, v1] st f Q) := pz_gjn .ne d9_5 rfl
theorem d9_8 : decode (pz_b 9) 8 = .ok (.iconst 0, 1) := by decide +kernel
theorem q9_8 {dA : Nat → ClassId} {d : Nat} {st : List Value} {f : pz_F} {Q : Option Value → pz_F → Prop} {v0 v1 : Value} : pz_R dA d 9 8 [v0, v1] st f Q = pz_R dA d 9 9 [v0, v1] (.int 0 :: st) f Q := pz_go (pz_so d9_8 rfl)
theorem d9_9 : decode (pz_b 9) 9 = .ok (.ireturn, 1) := by decide +kernel
theorem q9_9z {dA : Nat → ClassId} {d : Nat} {st : List Value} {f : pz_F} {Q : Option Value → pz_F → Prop} {v0 v1 : Value} : pz_R dA d 9 9 [v0, v1] [.int 0] f Q = Q (some (.int 0)) f := pz_gri d9_9 rfl rfl
theorem q9_9o {dA : Nat → ClassId} {d : Nat} {st : List Value} {f : pz_F} {Q : Option Value → pz_F → Prop} {v0 v1 : Value} : pz_R dA d 9 9 [v0, v1] [.int 1] f Q = Q (some (.int 1)) f := pz_gri d9_9 rfl rfl
theorem d9_10 : decode (pz_b 9) 10 = .ok (.aload_n 0, 1) := by decide +kernel
theorem q9_10 {dA : Nat → ClassId} {d : Nat} {st : List Value} {f : pz_F} {Q : Option Value → pz_F → Prop} {v1 : Value} {x : Nat} : pz_R dA d 9 10 [.ref x, v1] st f Q = pz_R dA d 9 11 [.ref x, v1] (.ref x :: st) f Q := pz_go (pz_so d9_10 rfl)
theorem d9_11 : decode (pz_b 9) 11 = .ok (.iload_n 1, 1) := by decide +kernel
theorem q9_11 {dA : Nat → ClassId} {d : Nat} {st : List Value} {f : pz_F} {Q : Option Value → pz_F → Prop} {v0 : Value} {x : Int32} : pz_R dA d 9 11 [v0, .int x] st f Q = pz_R dA d 9 12 [v0, .int x] (.int x :: st) f Q := pz_go (pz_so d9_11 rfl)
theorem d9_12 : decode (pz_b 9) 12 = .ok (.putfield 13, 3) := by decide +kernel
theorem q9_12z {dA : Nat → ClassId} {d : Nat} {st : List Value} {f : pz_F} {Q : Option Value → pz_F → Prop} {v0 v1 : Value} {a : Nat} : pz_R dA d 9 12 [v0, v1] (.int 0 :: .ref a :: st) f Q = pz_o (pz_pf f a 0 1 (.int 0)) (fun f' => pz_R dA d 9 15 [v0, v1] st f' Q) := pz_gp d9_12 rfl rfl rfl rfl
theorem q9_12o {dA : Nat → ClassId} {d : Nat} {st : List Value} {f : pz_F} {Q : Option Value → pz_F → Prop} {v0 v1 : Value} {a : Nat} : pz_R dA d 9 12 [v0, v1] (.int 1 :: .ref a :: st) f Q = pz_o (pz_pf f a 0 1 (.int 1)) (fun f' => pz_R dA d 9 15 [v0, v1] st f' Q) := pz_gp d9_12 rfl rfl rfl rfl
theorem d9_15 : decode (pz_b 9) 15 = .ok (.iconst 1, 1) := by decide +kernel
theorem q9_15 {dA : Nat → ClassId} {d : Nat} {st : List Value} {f : pz_F} {Q : Option Value → pz_F → Prop} {v0 v1 : Value} : pz_R dA d 9 15 [v0, v1] st f Q = pz_R dA d 9 16 [v0, v1] (.int 1 :: st) f Q := pz_go (pz_so d9_15 rfl)
theorem d9_16 : decode (pz_b 9) 16 = .ok (.ireturn, 1) := by decide +kernel
theorem q9_16z {dA : Nat → ClassId} {d : Nat} {st : List Value} {f : pz_F} {Q : Option Value → pz_F → Prop} {v0 v1 : Value} : pz_R dA d 9 16 [v0, v1] [.int 0] f Q = Q (some (.int 0)) f := pz_gri d9_16 rfl rfl
theorem q9_16o {dA : Nat → ClassId} {d : Nat} {st : List Value} {f : pz_F} {Q : Option Value → pz_F → Prop} {v0 v1 : Value} : pz_R dA d 9 16 [v0, v1] [.int 1] f Q = Q (some (.int 1)) f := pz_gri d9_16 rfl rfl
/-! P_state (I)I -/
theorem e10 {dA : Nat → ClassId} {d : Nat} {f : pz_F} {Q : Option Value → pz_F → Prop} {a0 : Nat} {a1 : Int32} : pz_C dA d 10 [.ref a0, .int a1] f Q = pz_R dA d 10 0 [.ref a0, .int a1] [] f Q := rfl
theorem d10_0 : decode (pz_b 10) 0 = .ok (.iload_n 1, 1) := by decide +kernel
theorem q10_0 {dA : Nat → ClassId} {d : Nat} {st : List Value} {f : pz_F} {Q : Option Value → pz_F → Prop} {v0 : Value} {x : Int32} : pz_R dA d 10 0 [v0, .int x] st f Q = pz_R dA d 10 1 [v0, .int x] (.int x :: st) f Q := pz_go (pz_so d10_0 rfl)
theorem d10_1 : decode (pz_b 10) 1 = .ok (.invokestatic 57, 3) := by decide +kernel
theorem q10_1 {dA : Nat → ClassId} {d : Nat} {st : List Value} {f : pz_F} {Q : Option Value → pz_F → Prop} {v0 v1 : Value} {c0 : Int32} (hr : st.length ≤ 4) : pz_R dA (d + 1) 10 1 [v0, v1] (.int c0 :: st) f Q = pz_C dA d 15 [.int c0] f (fun r f' => pz_R dA (d + 1) 10 4 [v0, v1] (r.toList ++ st) f' Q) := pz_gcs (As := [.int c0]) d10_1 rfl rfl rfl hr
theorem d10_4 : decode (pz_b 10) 4 = .ok (.ifCond .eq 15, 3) := by decide +kernel
theorem q10_4 {dA : Nat → ClassId} {d : Nat} {st : List Value} {f : pz_F} {Q : Option Value → pz_F → Prop} {v0 v1 : Value} {x : Int32} : pz_R dA d 10 4 [v0, v1] (.int x :: st) f Q = (if x = 0 then pz_R dA d 10 19 [v0, v1] st f Q else pz_R dA d 10 7 [v0, v1] st f Q) := pz_gj1 .eq d10_4 rfl
theorem d10_7 : decode (pz_b 10) 7 = .ok (.aload_n 0, 1) := by decide +kernel
theorem q10_7 {dA : Nat → ClassId} {d : Nat} {st : List Value} {f : pz_F} {Q : Option Value → pz_F → Prop} {v1 : Value} {x : Nat} : pz_R dA d 10 7 [.ref x, v1] st f Q = pz_R dA d 10 8 [.ref x, v1] (.ref x :: st) f Q := pz_go (pz_so d10_7 rfl)
theorem d10_8 : decode (pz_b 10) 8 = .ok (.getfield 19, 3) := by decide +kernel
theorem q10_8 {dA : Nat → ClassId} {d : Nat} {st : List Value} {f : pz_F} {Q : Option Value → pz_F → Prop} {v0 v1 : Value} {a : Nat} : pz_R dA d 10 8 [v0, v1] (.ref a :: st) f Q = pz_o (pz_gf f a 0 2) (fun v => pz_R dA d 10 11 [v0, v1] (v :: st) f Q) := pz_gg d10_8 rfl
theorem d10_11 : decode (pz_b 10) 11 = .ok (.iload_n 1, 1) := by decide +kernel
theorem q10_11 {dA : Nat → ClassId} {d : Nat} {st : List Value} {f : pz_F} {Q : Option Value → pz_F → Prop} {v0 : Value} {x : Int32} : pz_R dA d 10 11 [v0, .int x] st f Q = pz_R dA d 10 12 [v0, .int x] (.int x :: st) f Q := pz_go (pz_so d10_11 rfl)
theorem d10_12 : decode (pz_b 10) 12 = .ok (.aaload, 1) := by decide +kernel
theorem q10_12 {dA : Nat → ClassId} {d : Nat} {st : List Value} {f : pz_F} {Q : Option Value → pz_F → Prop} {v0 v1 : Value} {i : Int32} {a : Nat} : pz_R dA d 10 12 [v0, v1] (.int i :: .ref a :: st) f Q = pz_o (pz_rl dA f a i) (fun v => pz_R dA d 10 13 [v0, v1] (v :: st) f Q) := pz_grl d10_12
theorem d10_13 : decode (pz_b 10) 13 = .ok (.getfield 46, 3) := by decide +kernel
theorem q10_13 {dA : Nat → ClassId} {d : Nat} {st : List Value} {f : pz_F} {Q : Option Value → pz_F → Prop} {v0 v1 : Value} {a : Nat} : pz_R dA d 10 13 [v0, v1] (.ref a :: st) f Q = pz_o (pz_gf f a 1 2) (fun v => pz_R dA d 10 16 [v0, v1] (v :: st) f Q) := pz_gg d10_13 rfl
theorem d10_16 : decode (pz_b 10) 16 = .ok (.goto 4, 3) := by decide +kernel
theorem q10_16 {dA : Nat → ClassId} {d : Nat} {st : List Value} {f : pz_F} {Q : Option Value → pz_F → Prop} {v0 v1 : Value} : pz_R dA d 10 16 [v0, v1] st f Q = pz_R dA d 10 20 [v0, v1] st f Q := pz_go (pz_so d10_16 rfl)
theorem d10_19 : decode (pz_b 10) 19 = .ok (.iconst (-1), 1) := by decide +kernel
theorem q10_19 {dA : Nat → ClassId} {d : Nat} {st : List Value} {f : pz_F} {Q : Option Value → pz_F → Prop} {v0 v1 : Value} : pz_R dA d 10 19 [v0, v1] st f Q = pz_R dA d 10 20 [v0, v1] (.int (-1) :: st) f Q := pz_go (pz_so d10_19 rfl)
theorem d10_20 : decode (pz_b 10) 20 = .ok (.ireturn, 1) := by decide +kernel
theorem q10_20 {dA : Nat → ClassId} {d : Nat} {st : List Value} {f : pz_F} {Q : Option Value → pz_F → Prop} {v0 v1 : Value} {x : Int32} : pz_R dA d 10 20 [v0, v1] [.int x] f Q = Q (some (.int x)) f := pz_gri d10_20 rfl rfl
/-! P_entry (III)I -/
theorem e11 {dA : Nat → ClassId} {d : Nat} {f : pz_F} {Q : Option Value → pz_F → Prop} {a0 : Nat} {a1 : Int32} {a2 : Int32} {a3 : Int32} : pz_C dA d 11 [.ref a0, .int a1, .int a2, .int a3] f Q = pz_R dA d 11 0 [.ref a0, .int a1, .int a2, .int a3] [] f Q := rfl
theorem d11_0 : decode (pz_b 11) 0 = .ok (.iload_n 1, 1) := by decide +kernel
theorem q11_0 {dA : Nat → ClassId} {d : Nat} {st : List Value} {f : pz_F} {Q : Option Value → pz_F → Prop} {v0 v2 v3 : Value} {x : Int32} : pz_R dA d 11 0 [v0, .int x, v2, v3] st f Q = pz_R dA d 11 1 [v0, .int x, v2, v3] (.int x :: st) f Q := pz_go (pz_so d11_0 rfl)
theorem d11_1 : decode (pz_b 11) 1 = .ok (.invokestatic 57, 3) := by decide +kernel
theorem q11_1 {dA : Nat → ClassId} {d : Nat} {st : List Value} {f : pz_F} {Q : Option Value → pz_F → Prop} {v0 v1 v2 v3 : Value} {c0 : Int32} (hr : st.length ≤ 4) : pz_R dA (d + 1) 11 1 [v0, v1, v2, v3] (.int c0 :: st) f Q = pz_C dA d 15 [.int c0] f (fun r f' => pz_R dA (d + 1) 11 4 [v0, v1, v2, v3] (r.toList ++ st) f' Q) := pz_gcs (As := [.int c0]) d11_1 rfl rfl rfl hr
theorem d11_4 : decode (pz_b 11) 4 = .ok (.ifCond .eq 13, 3) := by decide +kernel
theorem q11_4 {dA : Nat → ClassId} {d : Nat} {st : List Value} {f : pz_F} {Q : Option Value → pz_F → Prop} {v0 v1 v2 v3 : Value} {x : Int32} : pz_R dA d 11 4 [v0, v1, v2, v3] (.int x :: st) f Q = (if x = 0 then pz_R dA d 11 17 [v0, v1, v2, v3] st f Q else pz_R dA d 11 7 [v0, v1, v2, v3] st f Q) := pz_gj1 .eq d11_4 rfl
theorem d11_7 : decode (pz_b 11) 7 = .ok (.iload_n 2, 1) := by decide +kernel
theorem q11_7 {dA : Nat → ClassId} {d : Nat} {st : List Value} {f : pz_F} {Q : Option Value → pz_F → Prop} {v0 v1 v3 : Value} {x : Int32} : pz_R dA d 11 7 [v0, v1, .int x, v3] st f Q = pz_R dA d 11 8 [v0, v1, .int x, v3] (.int x :: st) f Q := pz_go (pz_so d11_7 rfl)
theorem d11_8 : decode (pz_b 11) 8 = .ok (.ifCond .lt 9, 3) := by decide +kernel
theorem q11_8 {dA : Nat → ClassId} {d : Nat} {st : List Value} {f : pz_F} {Q : Option Value → pz_F → Prop} {v0 v1 v2 v3 : Value} {x : Int32} : pz_R dA d 11 8 [v0, v1, v2, v3] (.int x :: st) f Q = (if x < 0 then pz_R dA d 11 17 [v0, v1, v2, v3] st f Q else pz_R dA d 11 11 [v0, v1, v2, v3] st f Q) := pz_gj1 .lt d11_8 rfl
theorem d11_11 : decode (pz_b 11) 11 = .ok (.iload_n 2, 1) := by decide +kernel
theorem q11_11 {dA : Nat → ClassId} {d : Nat} {st : List Value} {f : pz_F} {Q : Option Value → pz_F → Prop} {v0 v1 v3 : Value} {x : Int32} : pz_R dA d 11 11 [v0, v1, .int x, v3] st f Q = pz_R dA d 11 12 [v0, v1, .int x, v3] (.int x :: st) f Q := pz_go (pz_so d11_11 rfl)
theorem d11_12 : decode (pz_b 11) 12 = .ok (.bipush 6, 2) := by decide +kernel
theorem q11_12 {dA : Nat → ClassId} {d : Nat} {st : List Value} {f : pz_F} {Q : Option Value → pz_F → Prop} {v0 v1 v2 v3 : Value} : pz_R dA d 11 12 [v0, v1, v2, v3] st f Q = pz_R dA d 11 14 [v0, v1, v2, v3] (.int 6 :: st) f Q := pz_go (pz_so d11_12 rfl)
theorem d11_14 : decode (pz_b 11) 14 = .ok (.if_icmp .lt 6, 3) := by decide +kernel
theorem q11_14 {dA : Nat → ClassId} {d : Nat} {st : List Value} {f : pz_F} {Q : Option Value → pz_F → Prop} {v0 v1 v2 v3 : Value} {x y : Int32} : pz_R dA d 11 14 [v0, v1, v2, v3] (.int y :: .int x :: st) f Q = (if x < y then pz_R dA d 11 20 [v0, v1, v2, v3] st f Q else pz_R dA d 11 17 [v0, v1, v2, v3] st f Q) := pz_gjn .lt d11_14 rfl
theorem d11_17 : decode (pz_b 11) 17 = .ok (.bipush (-2), 2) := by decide +kernel
theorem q11_17 {dA : Nat → ClassId} {d : Nat} {st : List Value} {f : pz_F} {Q : Option Value → pz_F → Prop} {v0 v1 v2 v3 : Value} : pz_R dA d 11 17 [v0, v1, v2, v3] st f Q = pz_R dA d 11 19 [v0, v1, v2, v3] (.int (-2) :: st) f Q := pz_go (pz_so d11_17 rfl)
theorem d11_19 : decode (pz_b 11) 19 = .ok (.ireturn, 1) := by decide +kernel
theorem q11_19 {dA : Nat → ClassId} {d : Nat} {st : List Value} {f : pz_F} {Q : Option Value → pz_F → Prop} {v0 v1 v2 v3 : Value} {x : Int32} : pz_R dA d 11 19 [v0, v1, v2, v3] [.int x] f Q = Q (some (.int x)) f := pz_gri d11_19 rfl rfl
theorem d11_20 : decode (pz_b 11) 20 = .ok (.aload_n 0, 1) := by decide +kernel
theorem q11_20 {dA : Nat → ClassId} {d : Nat} {st : List Value} {f : pz_F} {Q : Option Value → pz_F → Prop} {v1 v2 v3 : Value} {x : Nat} : pz_R dA d 11 20 [.ref x, v1, v2, v3] st f Q = pz_R dA d 11 21 [.ref x, v1, v2, v3] (.ref x :: st) f Q := pz_go (pz_so d11_20 rfl)
theorem d11_21 : decode (pz_b 11) 21 = .ok (.getfield 19, 3) := by decide +kernel
theorem q11_21 {dA : Nat → ClassId} {d : Nat} {st : List Value} {f : pz_F} {Q : Option Value → pz_F → Prop} {v0 v1 v2 v3 : Value} {a : Nat} : pz_R dA d 11 21 [v0, v1, v2, v3] (.ref a :: st) f Q = pz_o (pz_gf f a 0 2) (fun v => pz_R dA d 11 24 [v0, v1, v2, v3] (v :: st) f Q) := pz_gg d11_21 rfl
theorem d11_24 : decode (pz_b 11) 24 = .ok (.iload_n 1, 1) := by decide +kernel
theorem q11_24 {dA : Nat → ClassId} {d : Nat} {st : List Value} {f : pz_F} {Q : Option Value → pz_F → Prop} {v0 v2 v3 : Value} {x : Int32} : pz_R dA d 11 24 [v0, .int x, v2, v3] st f Q = pz_R dA d 11 25 [v0, .int x, v2, v3] (.int x :: st) f Q := pz_go (pz_so d11_24 rfl)
theorem d11_25 : decode (pz_b 11) 25 = .ok (.aaload, 1) := by decide +kernel
theorem q11_25 {dA : Nat → ClassId} {d : Nat} {st : List Value} {f : pz_F} {Q : Option Value → pz_F → Prop} {v0 v1 v2 v3 : Value} {i : Int32} {a : Nat} : pz_R dA d 11 25 [v0, v1, v2, v3] (.int i :: .ref a :: st) f Q = pz_o (pz_rl dA f a i) (fun v => pz_R dA d 11 26 [v0, v1, v2, v3] (v :: st) f Q) := pz_grl d11_25
theorem d11_26 : decode (pz_b 11) 26 = .ok (.getfield 121, 3) := by decide +kernel
theorem q11_26 {dA : Nat → ClassId} {d : Nat} {st : List Value} {f : pz_F} {Q : Option Value → pz_F → Prop} {v0 v1 v2 v3 : Value} {a : Nat} : pz_R dA d 11 26 [v0, v1, v2, v3] (.ref a :: st) f Q = pz_o (pz_gf f a 1 1) (fun v => pz_R dA d 11 29 [v0, v1, v2, v3] (v :: st) f Q) := pz_gg d11_26 rfl
theorem d11_29 : decode (pz_b 11) 29 = .ok (.iload_n 2, 1) := by decide +kernel
theorem q11_29 {dA : Nat → ClassId} {d : Nat} {st : List Value} {f : pz_F} {Q : Option Value → pz_F → Prop} {v0 v1 v3 : Value} {x : Int32} : pz_R dA d 11 29 [v0, v1, .int x, v3] st f Q = pz_R dA d 11 30 [v0, v1, .int x, v3] (.int x :: st) f Q := pz_go (pz_so d11_29 rfl)
theorem d11_30 : decode (pz_b 11) 30 = .ok (.aaload, 1) := by decide +kernel
theorem q11_30 {dA : Nat → ClassId} {d : Nat} {st : List Value} {f : pz_F} {Q : Option Value → pz_F → Prop} {v0 v1 v2 v3 : Value} {i : Int32} {a : Nat} : pz_R dA d 11 30 [v0, v1, v2, v3] (.int i :: .ref a :: st) f Q = pz_o (pz_rl dA f a i) (fun v => pz_R dA d 11 31 [v0, v1, v2, v3] (v :: st) f Q) := pz_grl d11_30
theorem d11_31 : decode (pz_b 11) 31 = .ok (.iload_n 3, 1) := by decide +kernel
theorem q11_31 {dA : Nat → ClassId} {d : Nat} {st : List Value} {f : pz_F} {Q : Option Value → pz_F → Prop} {v0 v1 v2 : Value} {x : Int32} : pz_R dA d 11 31 [v0, v1, v2, .int x] st f Q = pz_R dA d 11 32 [v0, v1, v2, .int x] (.int x :: st) f Q := pz_go (pz_so d11_31 rfl)
theorem d11_32 : decode (pz_b 11) 32 = .ok (.invokevirtual 125, 3) := by decide +kernel
theorem q11_32 {dA : Nat → ClassId} {d : Nat} {st : List Value} {f : pz_F} {Q : Option Value → pz_F → Prop} {v0 v1 v2 v3 : Value} {c0 : Int32} {b : Nat} (hr : st.length ≤ 4) : pz_R dA (d + 1) 11 32 [v0, v1, v2, v3] (.int c0 :: .ref b :: st) f Q = pz_o (pz_gu f b 2) (fun _ => pz_C dA d 63 [.ref b, .int c0] f (fun r f' => pz_R dA (d + 1) 11 35 [v0, v1, v2, v3] (r.toList ++ st) f' Q)) := pz_gcv (As := [.int c0]) d11_32 rfl rfl rfl hr
theorem d11_35 : decode (pz_b 11) 35 = .ok (.ireturn, 1) := by decide +kernel
theorem q11_35 {dA : Nat → ClassId} {d : Nat} {st : List Value} {f : pz_F} {Q : Option Value → pz_F → Prop} {v0 v1 v2 v3 : Value} {x : Int32} : pz_R dA d 11 35 [v0, v1, v2, v3] [.int x] f Q = Q (some (.int x)) f := pz_gri d11_35 rfl rfl
/-! P_client (II)I -/
theorem e12 {dA : Nat → ClassId} {d : Nat} {f : pz_F} {Q : Option Value → pz_F → Prop} {a0 : Nat} {a1 : Int32} {a2 : Int32} : pz_C dA d 12 [.ref a0, .int a1, .int a2] f Q = pz_R dA d 12 0 [.ref a0, .int a1, .int a2] [] f Q := rfl
theorem d12_0 : decode (pz_b 12) 0 = .ok (.iload_n 1, 1) := by decide +kernel
theorem q12_0 {dA : Nat → ClassId} {d : Nat} {st : List Value} {f : pz_F} {Q : Option Value → pz_F → Prop} {v0 v2 : Value} {x : Int32} : pz_R dA d 12 0 [v0, .int x, v2] st f Q = pz_R dA d 12 1 [v0, .int x, v2] (.int x :: st) f Q := pz_go (pz_so d12_0 rfl)
theorem d12_1 : decode (pz_b 12) 1 = .ok (.invokestatic 53, 3) := by decide +kernel
theorem q12_1 {dA : Nat → ClassId} {d : Nat} {st : List Value} {f : pz_F} {Q : Option Value → pz_F → Prop} {v0 v1 v2 : Value} {c0 : Int32} (hr : st.length ≤ 4) : pz_R dA (d + 1) 12 1 [v0, v1, v2] (.int c0 :: st) f Q = pz_C dA d 16 [.int c0] f (fun r f' => pz_R dA (d + 1) 12 4 [v0, v1, v2] (r.toList ++ st) f' Q) := pz_gcs (As := [.int c0]) d12_1 rfl rfl rfl hr
theorem d12_4 : decode (pz_b 12) 4 = .ok (.ifCond .eq 16, 3) := by decide +kernel
theorem q12_4 {dA : Nat → ClassId} {d : Nat} {st : List Value} {f : pz_F} {Q : Option Value → pz_F → Prop} {v0 v1 v2 : Value} {x : Int32} : pz_R dA d 12 4 [v0, v1, v2] (.int x :: st) f Q = (if x = 0 then pz_R dA d 12 20 [v0, v1, v2] st f Q else pz_R dA d 12 7 [v0, v1, v2] st f Q) := pz_gj1 .eq d12_4 rfl
theorem d12_7 : decode (pz_b 12) 7 = .ok (.aload_n 0, 1) := by decide +kernel
theorem q12_7 {dA : Nat → ClassId} {d : Nat} {st : List Value} {f : pz_F} {Q : Option Value → pz_F → Prop} {v1 v2 : Value} {x : Nat} : pz_R dA d 12 7 [.ref x, v1, v2] st f Q = pz_R dA d 12 8 [.ref x, v1, v2] (.ref x :: st) f Q := pz_go (pz_so d12_7 rfl)
theorem d12_8 : decode (pz_b 12) 8 = .ok (.getfield 28, 3) := by decide +kernel
theorem q12_8 {dA : Nat → ClassId} {d : Nat} {st : List Value} {f : pz_F} {Q : Option Value → pz_F → Prop} {v0 v1 v2 : Value} {a : Nat} : pz_R dA d 12 8 [v0, v1, v2] (.ref a :: st) f Q = pz_o (pz_gf f a 0 3) (fun v => pz_R dA d 12 11 [v0, v1, v2] (v :: st) f Q) := pz_gg d12_8 rfl
theorem d12_11 : decode (pz_b 12) 11 = .ok (.iload_n 1, 1) := by decide +kernel
theorem q12_11 {dA : Nat → ClassId} {d : Nat} {st : List Value} {f : pz_F} {Q : Option Value → pz_F → Prop} {v0 v2 : Value} {x : Int32} : pz_R dA d 12 11 [v0, .int x, v2] st f Q = pz_R dA d 12 12 [v0, .int x, v2] (.int x :: st) f Q := pz_go (pz_so d12_11 rfl)
theorem d12_12 : decode (pz_b 12) 12 = .ok (.aaload, 1) := by decide +kernel
theorem q12_12 {dA : Nat → ClassId} {d : Nat} {st : List Value} {f : pz_F} {Q : Option Value → pz_F → Prop} {v0 v1 v2 : Value} {i : Int32} {a : Nat} : pz_R dA d 12 12 [v0, v1, v2] (.int i :: .ref a :: st) f Q = pz_o (pz_rl dA f a i) (fun v => pz_R dA d 12 13 [v0, v1, v2] (v :: st) f Q) := pz_grl d12_12
theorem d12_13 : decode (pz_b 12) 13 = .ok (.iload_n 2, 1) := by decide +kernel
theorem q12_13 {dA : Nat → ClassId} {d : Nat} {st : List Value} {f : pz_F} {Q : Option Value → pz_F → Prop} {v0 v1 : Value} {x : Int32} : pz_R dA d 12 13 [v0, v1, .int x] st f Q = pz_R dA d 12 14 [v0, v1, .int x] (.int x :: st) f Q := pz_go (pz_so d12_13 rfl)
theorem d12_14 : decode (pz_b 12) 14 = .ok (.invokevirtual 131, 3) := by decide +kernel
theorem q12_14 {dA : Nat → ClassId} {d : Nat} {st : List Value} {f : pz_F} {Q : Option Value → pz_F → Prop} {v0 v1 v2 : Value} {c0 : Int32} {b : Nat} (hr : st.length ≤ 4) : pz_R dA (d + 1) 12 14 [v0, v1, v2] (.int c0 :: .ref b :: st) f Q = pz_o (pz_gu f b 3) (fun _ => pz_C dA d 71 [.ref b, .int c0] f (fun r f' => pz_R dA (d + 1) 12 17 [v0, v1, v2] (r.toList ++ st) f' Q)) := pz_gcv (As := [.int c0]) d12_14 rfl rfl rfl hr
theorem d12_17 : decode (pz_b 12) 17 = .ok (.goto 5, 3) := by decide +kernel
theorem q12_17 {dA : Nat → ClassId} {d : Nat} {st : List Value} {f : pz_F} {Q : Option Value → pz_F → Prop} {v0 v1 v2 : Value} : pz_R dA d 12 17 [v0, v1, v2] st f Q = pz_R dA d 12 22 [v0, v1, v2] st f Q := pz_go (pz_so d12_17 rfl)
theorem d12_20 : decode (pz_b 12) 20 = .ok (.bipush (-2), 2) := by decide +kernel
theorem q12_20 {dA : Nat → ClassId} {d : Nat} {st : List Value} {f : pz_F} {Q : Option Value → pz_F → Prop} {v0 v1 v2 : Value} : pz_R dA d 12 20 [v0, v1, v2] st f Q = pz_R dA d 12 22 [v0, v1, v2] (.int (-2) :: st) f Q := pz_go (pz_so d12_20 rfl)
theorem d12_22 : decode (pz_b 12) 22 = .ok (.ireturn, 1) := by decide +kernel
theorem q12_22 {dA : Nat → ClassId} {d : Nat} {st : List Value} {f : pz_F} {Q : Option Value → pz_F → Prop} {v0 v1 v2 : Value} {x : Int32} : pz_R dA d 12 22 [v0, v1, v2] [.int x] f Q = Q (some (.int x)) f := pz_gri d12_22 rfl rfl
/-! P_messages ()I -/
theorem e13 {dA : Nat → ClassId} {d : Nat} {f : pz_F} {Q : Option Value → pz_F → Prop} {a0 : Nat} : pz_C dA d 13 [.ref a0] f Q = pz_R dA d 13 0 [.ref a0] [] f Q := rfl
theorem d13_0 : decode (pz_b 13) 0 = .ok (.aload_n 0, 1) := by decide +kernel
theorem q13_0 {dA : Nat → ClassId} {d : Nat} {st : List Value} {f : pz_F} {Q : Option Value → pz_F → Prop} {x : Nat} : pz_R dA d 13 0 [.ref x] st f Q = pz_R dA d 13 1 [.ref x] (.ref x :: st) f Q := pz_go (pz_so d13_0 rfl)
theorem d13_1 : decode (pz_b 13) 1 = .ok (.getfield 36, 3) := by decide +kernel
theorem q13_1 {dA : Nat → ClassId} {d : Nat} {st : List Value} {f : pz_F} {Q : Option Value → pz_F → Prop} {v0 : Value} {a : Nat} : pz_R dA d 13 1 [v0] (.ref a :: st) f Q = pz_o (pz_gf f a 0 4) (fun v => pz_R dA d 13 4 [v0] (v :: st) f Q) := pz_gg d13_1 rfl
theorem d13_4 : decode (pz_b 13) 4 = .ok (.getfield 132, 3) := by decide +kernel
theorem q13_4 {dA : Nat → ClassId} {d : Nat} {st : List Value} {f : pz_F} {Q : Option Value → pz_F → Prop} {v0 : Value} {a : Nat} : pz_R dA d 13 4 [v0] (.ref a :: st) f Q = pz_o (pz_gf f a 4 1) (fun v => pz_R dA d 13 7 [v0] (v :: st) f Q) := pz_gg d13_4 rfl
theorem d13_7 : decode (pz_b 13) 7 = .ok (.ireturn, 1) := by decide +kernel
theorem q13_7 {dA : Nat → ClassId} {d : Nat} {st : List Value} {f : pz_F} {Q : Option Value → pz_F → Prop} {v0 : Value} {x : Int32} : pz_R dA d 13 7 [v0] [.int x] f Q = Q (some (.int x)) f := pz_gri d13_7 rfl rfl
/-! P_message (II)I -/
theorem e14 {dA : Nat → ClassId} {d : Nat} {f : pz_F} {Q : Option Value → pz_F → Prop} {a0 : Nat} {a1 : Int32} {a2 : Int32} : pz_C dA d 14 [.ref a0, .int a1, .int a2] f Q = pz_R dA d 14 0 [.ref a0, .int a1, .int a2] [] f Q := rfl
theorem d14_0 : decode (pz_b 14) 0 = .ok (.aload_n 0, 1) := by decide +kernel
theorem q14_0 {dA : Nat → ClassId} {d : Nat} {st : List Value} {f : pz_F} {Q : Option Value → pz_F → Prop} {v1 v2 : Value} {x : Nat} : pz_R dA d 14 0 [.ref x, v1, v2] st f Q = pz_R dA d 14 1 [.ref x, v1, v2] (.ref x :: st) f Q := pz_go (pz_so d14_0 rfl)
theorem d14_1 : decode (pz_b 14) 1 = .ok (.getfield 36, 3) := by decide +kernel
theorem q14_1 {dA : Nat → ClassId} {d : Nat} {st : List Value} {f : pz_F} {Q : Option Value → pz_F → Prop} {v0 v1 v2 : Value} {a : Nat} : pz_R dA d 14 1 [v0, v1, v2] (.ref a :: st) f Q = pz_o (pz_gf f a 0 4) (fun v => pz_R dA d 14 4 [v0, v1, v2] (v :: st) f Q) := pz_gg d14_1 rfl
theorem d14_4 : decode (pz_b 14) 4 = .ok (.iload_n 1, 1) := by decide +kernel
theorem q14_4 {dA : Nat → ClassId} {d : Nat} {st : List Value} {f : pz_F} {Q : Option Value → pz_F → Prop} {v0 v2 : Value} {x : Int32} : pz_R dA d 14 4 [v0, .int x, v2] st f Q = pz_R dA d 14 5 [v0, .int x, v2] (.int x :: st) f Q := pz_go (pz_so d14_4 rfl)
theorem d14_5 : decode (pz_b 14) 5 = .ok (.invokevirtual 89, 3) := by decide +kernel
theorem q14_5 {dA : Nat → ClassId} {d : Nat} {st : List Value} {f : pz_F} {Q : Option Value → pz_F → Prop} {v0 v1 v2 : Value} {c0 : Int32} {b : Nat} (hr : st.length ≤ 4) : pz_R dA (d + 1) 14 5 [v0, v1, v2] (.int c0 :: .ref b :: st) f Q = pz_o (pz_gu f b 4) (fun _ => pz_C dA d 73 [.ref b, .int c0] f (fun r f' => pz_R dA (d + 1) 14 8 [v0, v1, v2] (r.toList ++ st) f' Q)) := pz_gcv (As := [.int c0]) d14_5 rfl rfl rfl hr
theorem d14_8 : decode (pz_b 14) 8 = .ok (.ifCond .eq 19, 3) := by decide +kernel
theorem q14_8 {dA : Nat → ClassId} {d : Nat} {st : List Value} {f : pz_F} {Q : Option Value → pz_F → Prop} {v0 v1 v2 : Value} {x : Int32} : pz_R dA d 14 8 [v0, v1, v2] (.int x :: st) f Q = (if x = 0 then pz_R dA d 14 27 [v0, v1, v2] st f Q else pz_R dA d 14 11 [v0, v1, v2] st f Q) := pz_gj1 .eq d14_8 rfl
theorem d14_11 : decode (pz_b 14) 11 = .ok (.aload_n 0, 1) := by decide +kernel
theorem q14_11 {dA : Nat → ClassId} {d : Nat} {st : List Value} {f : pz_F} {Q : Option Value → pz_F → Prop} {v1 v2 : Value} {x : Nat} : pz_R dA d 14 11 [.ref x, v1, v2] st f Q = pz_R dA d 14 12 [.ref x, v1, v2] (.ref x :: st) f Q := pz_go (pz_so d14_11 rfl)
theorem d14_12 : decode (pz_b 14) 12 = .ok (.getfield 36, 3) := by decide +kernel
theorem q14_12 {dA : Nat → ClassId} {d : Nat} {st : List Value} {f : pz_F} {Q : Option Value → pz_F → Prop} {v0 v1 v2 : Value} {a : Nat} : pz_R dA d 14 12 [v0, v1, v2] (.ref a :: st) f Q = pz_o (pz_gf f a 0 4) (fun v => pz_R dA d 14 15 [v0, v1, v2] (v :: st) f Q) := pz_gg d14_12 rfl
theorem d14_15 : decode (pz_b 14) 15 = .ok (.getfield 135, 3) := by decide +kernel
theorem q14_15 {dA : Nat → ClassId} {d : Nat} {st : List Value} {f : pz_F} {Q : Option Value → pz_F → Prop} {v0 v1 v2 : Value} {a : Nat} : pz_R dA d 14 15 [v0, v1, v2] (.ref a :: st) f Q = pz_o (pz_gf f a 4 0) (fun v => pz_R dA d 14 18 [v0, v1, v2] (v :: st) f Q) := pz_gg d14_15 rfl
theorem d14_18 : decode (pz_b 14) 18 = .ok (.iload_n 1, 1) := by decide +kernel
theorem q14_18 {dA : Nat → ClassId} {d : Nat} {st : List Value} {f : pz_F} {Q : Option Value → pz_F → Prop} {v0 v2 : Value} {x : Int32} : pz_R dA d 14 18 [v0, .int x, v2] st f Q = pz_R dA d 14 19 [v0, .int x, v2] (.int x :: st) f Q := pz_go (pz_so d14_18 rfl)
theorem d14_19 : decode (pz_b 14) 19 = .ok (.aaload, 1) := by decide +kernel
theorem q14_19 {dA : Nat → ClassId} {d : Nat} {st : List Value} {f : pz_F} {Q : Option Value → pz_F → Prop} {v0 v1 v2 : Value} {i : Int32} {a : Nat} : pz_R dA d 14 19 [v0, v1, v2] (.int i :: .ref a :: st) f Q = pz_o (pz_rl dA f a i) (fun v => pz_R dA d 14 20 [v0, v1, v2] (v :: st) f Q) := pz_grl d14_19
theorem d14_20 : decode (pz_b 14) 20 = .ok (.iload_n 2, 1) := by decide +kernel
theorem q14_20 {dA : Nat → ClassId} {d : Nat} {st : List Value} {f : pz_F} {Q : Option Value → pz_F → Prop} {v0 v1 : Value} {x : Int32} : pz_R dA d 14 20 [v0, v1, .int x] st f Q = pz_R dA d 14 21 [v0, v1, .int x] (.int x :: st) f Q := pz_go (pz_so d14_20 rfl)
theorem d14_21 : decode (pz_b 14) 21 = .ok (.invokevirtual 139, 3) := by decide +kernel
theorem q14_21 {dA : Nat → ClassId} {d : Nat} {st : List Value} {f : pz_F} {Q : Option Value → pz_F → Prop} {v0 v1 v2 : Value} {c0 : Int32} {b : Nat} (hr : st.length ≤ 4) : pz_R dA (d + 1) 14 21 [v0, v1, v2] (.int c0 :: .ref b :: st) f Q = pz_o (pz_gu f b 5) (fun _ => pz_C dA d 83 [.ref b, .int c0] f (fun r f' => pz_R dA (d + 1) 14 24 [v0, v1, v2] (r.toList ++ st) f' Q)) := pz_gcv (As := [.int c0]) d14_21 rfl rfl rfl hr
theorem d14_24 : decode (pz_b 14) 24 = .ok (.goto 5, 3) := by decide +kernel
theorem q14_24 {dA : Nat → ClassId} {d : Nat} {st : List Value} {f : pz_F} {Q : Option Value → pz_F → Prop} {v0 v1 v2 : Value} : pz_R dA d 14 24 [v0, v1, v2] st f Q = pz_R dA d 14 29 [v0, v1, v2] st f Q := pz_go (pz_so d14_24 rfl)
theorem d14_27 : decode (pz_b 14) 27 = .ok (.bipush (-2), 2) := by decide +kernel
theorem q14_27 {dA : Nat → ClassId} {d : Nat} {st : List Value} {f : pz_F} {Q : Option Value → pz_F → Prop} {v0 v1 v2 : Value} : pz_R dA d 14 27 [v0, v1, v2] st f Q = pz_R dA d 14 29 [v0, v1, v2] (.int (-2) :: st) f Q := pz_go (pz_so d14_27 rfl)
theorem d14_29 : decode (pz_b 14) 29 = .ok (.ireturn, 1) := by decide +kernel
theorem q14_29 {dA : Nat → ClassId} {d : Nat} {st : List Value} {f : pz_F} {Q : Option Value → pz_F → Prop} {v0 v1 v2 : Value} {x : Int32} : pz_R dA d 14 29 [v0, v1, v2] [.int x] f Q = Q (some (.int x)) f := pz_gri d14_29 rfl rfl
/-! P_isServer (I)Z -/
theorem e15 {dA : Nat → ClassId} {d : Nat} {f : pz_F} {Q : Option Value → pz_F → Prop} {a0 : Int32} : pz_C dA d 15 [.int a0] f Q = pz_R dA d 15 0 [.int a0] [] f Q := rfl
theorem d15_0 : decode (pz_b 15) 0 = .ok (.iload_n 0, 1) := by decide +kernel
theorem q15_0 {dA : Nat → ClassId} {d : Nat} {st : List Value} {f : pz_F} {Q : Option Value → pz_F → Prop} {x : Int32} : pz_R dA d 15 0 [.int x] st f Q = pz_R dA d 15 1 [.int x] (.int x :: st) f Q := pz_go (pz_so d15_0 rfl)
theorem d15_1 : decode (pz_b 15) 1 = .ok (.ifCond .lt 12, 3) := by decide +kernel
theorem q15_1 {dA : Nat → ClassId} {d : Nat} {st : List Value} {f : pz_F} {Q : Option Value → pz_F → Prop} {v0 : Value} {x : Int32} : pz_R dA d 15 1 [v0] (.int x :: st) f Q = (if x < 0 then pz_R dA d 15 13 [v0] st f Q else pz_R dA d 15 4 [v0] st f Q) := pz_gj1 .lt d15_1 rfl
theorem d15_4 : decode (pz_b 15) 4 = .ok (.iload_n 0, 1) := by decide +kernel
theorem q15_4 {dA : Nat → ClassId} {d : Nat} {st : List Value} {f : pz_F} {Q : Option Value → pz_F → Prop} {x : Int32} : pz_R dA d 15 4 [.int x] st f Q = pz_R dA d 15 5 [.int x] (.int x :: st) f Q := pz_go (pz_so d15_4 rfl)
theorem d15_5 : decode (pz_b 15) 5 = .ok (.iconst 2, 1) := by decide +kernel
theorem q15_5 {dA : Nat → ClassId} {d : Nat} {st : List Value} {f : pz_F} {Q : Option Value → pz_F → Prop} {v0 : Value} : pz_R dA d 15 5 [v0] st f Q = pz_R dA d 15 6 [v0] (.int 2 :: st) f Q := pz_go (pz_so d15_5 rfl)
theorem d15_6 : decode (pz_b 15) 6 = .ok (.if_icmp .ge 7, 3) := by decide +kernel
theorem q15_6 {dA : Nat → ClassId} {d : Nat} {st : List Value} {f : pz_F} {Q : Option Value → pz_F → Prop} {v0 : Value} {x y : Int32} : pz_R dA d 15 6 [v0] (.int y :: .int x :: st) f Q = (if y ≤ x then pz_R dA d 15 13 [v0] st f Q else pz_R dA d 15 9 [v0] st f Q) := pz_gjn .ge d15_6 rfl
theorem d15_9 : decode (pz_b 15) 9 = .ok (.iconst 1, 1) := by decide +kernel
theorem q15_9 {dA : Nat → ClassId} {d : Nat} {st : List Value} {f : pz_F} {Q : Option Value → pz_F → Prop} {v0 : Value} : pz_R dA d 15 9 [v0] st f Q = pz_R dA d 15 10 [v0] (.int 1 :: st) f Q := pz_go (pz_so d15_9 rfl)
theorem d15_10 : decode (pz_b 15) 10 = .ok (.goto 4, 3) := by decide +kernel
theorem q15_10 {dA : Nat → ClassId} {d : Nat} {st : List Value} {f : pz_F} {Q : Option Value → pz_F → Prop} {v0 : Value} : pz_R dA d 15 10 [v0] st f Q = pz_R dA d 15 14 [v0] st f Q := pz_go (pz_so d15_10 rfl)
theorem d15_13 : decode (pz_b 15) 13 = .ok (.iconst 0, 1) := by decide +kernel
theorem q15_13 {dA : Nat → ClassId} {d : Nat} {st : List Value} {f : pz_F} {Q : Option Value → pz_F → Prop} {v0 : Value} : pz_R dA d 15 13 [v0] st f Q = pz_R dA d 15 14 [v0] (.int 0 :: st) f Q := pz_go (pz_so d15_13 rfl)
theorem d15_14 : decode (pz_b 15) 14 = .ok (.ireturn, 1) := by decide +kernel
theorem q15_14z {dA : Nat → ClassId} {d : Nat} {st : List Value} {f : pz_F} {Q : Option Value → pz_F → Prop} {v0 : Value} : pz_R dA d 15 14 [v0] [.int 0] f Q = Q (some (.int 0)) f := pz_gri d15_14 rfl rfl
theorem q15_14o {dA : Nat → ClassId} {d : Nat} {st : List Value} {f : pz_F} {Q : Option Value → pz_F → Prop} {v0 : Value} : pz_R dA d 15 14 [v0] [.int 1] f Q = Q (some (.int 1)) f := pz_gri d15_14 rfl rfl
/-! P_isClient (I)Z -/
theorem e16 {dA : Nat → ClassId} {d : Nat} {f : pz_F} {Q : Option Value → pz_F → Prop} {a0 : Int32} : pz_C dA d 16 [.int a0] f Q = pz_R dA d 16 0 [.int a0] [] f Q := rfl
theorem d16_0 : decode (pz_b 16) 0 = .ok (.iload_n 0, 1) := by decide +kernel
theorem q16_0 {dA : Nat → ClassId} {d : Nat} {st : List Value} {f : pz_F} {Q : Option Value → pz_F → Prop} {x : Int32} : pz_R dA d 16 0 [.int x] st f Q = pz_R dA d 16 1 [.int x] (.int x :: st) f Q := pz_go (pz_so d16_0 rfl)
theorem d16_1 : decode (pz_b 16) 1 = .ok (.ifCond .lt 12, 3) := by decide +kernel
theorem q16_1 {dA : Nat → ClassId} {d : Nat} {st : List Value} {f : pz_F} {Q : Option Value → pz_F → Prop} {v0 : Value} {x : Int32} : pz_R dA d 16 1 [v0] (.int x :: st) f Q = (if x < 0 then pz_R dA d 16 13 [v0] st f Q else pz_R dA d 16 4 [v0] st f Q) := pz_gj1 .lt d16_1 rfl
theorem d16_4 : decode (pz_b 16) 4 = .ok (.iload_n 0, 1) := by decide +kernel
theorem q16_4 {dA : Nat → ClassId} {d : Nat} {st : List Value} {f : pz_F} {Q : Option Value → pz_F → Prop} {x : Int32} : pz_R dA d 16 4 [.int x] st f Q = pz_R dA d 16 5 [.int x] (.int x :: st) f Q := pz_go (pz_so d16_4 rfl)
theorem d16_5 : decode (pz_b 16) 5 = .ok (.iconst 5, 1) := by decide +kernel
theorem q16_5 {dA : Nat → ClassId} {d : Nat} {st : List Value} {f : pz_F} {Q : Option Value → pz_F → Prop} {v0 : Value} : pz_R dA d 16 5 [v0] st f Q = pz_R dA d 16 6 [v0] (.int 5 :: st) f Q := pz_go (pz_so d16_5 rfl)
theorem d16_6 : decode (pz_b 16) 6 = .ok (.if_icmp .ge 7, 3) := by decide +kernel
theorem q16_6 {dA : Nat → ClassId} {d : Nat} {st : List Value} {f : pz_F} {Q : Option Value → pz_F → Prop} {v0 : Value} {x y : Int32} : pz_R dA d 16 6 [v0] (.int y :: .int x :: st) f Q = (if y ≤ x then pz_R dA d 16 13 [v0] st f Q else pz_R dA d 16 9 [v0] st f Q) := pz_gjn .ge d16_6 rfl
theorem d16_9 : decode (pz_b 16) 9 = .ok (.iconst 1, 1) := by decide +kernel
theorem q16_9 {dA : Nat → ClassId} {d : Nat} {st : List Value} {f : pz_F} {Q : Option Value → pz_F → Prop} {v0 : Value} : pz_R dA d 16 9 [v0] st f Q = pz_R dA d 16 10 [v0] (.int 1 :: st) f Q := pz_go (pz_so d16_9 rfl)
theorem d16_10 : decode (pz_b 16) 10 = .ok (.goto 4, 3) := by decide +kernel
theorem q16_10 {dA : Nat → ClassId} {d : Nat} {st : List Value} {f : pz_F} {Q : Option Value → pz_F → Prop} {v0 : Value} : pz_R dA d 16 10 [v0] st f Q = pz_R dA d 16 14 [v0] st f Q := pz_go (pz_so d16_10 rfl)
theorem d16_13 : decode (pz_b 16) 13 = .ok (.iconst 0, 1) := by decide +kernel
theorem q16_13 {dA : Nat → ClassId} {d : Nat} {st : List Value} {f : pz_F} {Q : Option Value → pz_F → Prop} {v0 : Value} : pz_R dA d 16 13 [v0] st f Q = pz_R dA d 16 14 [v0] (.int 0 :: st) f Q := pz_go (pz_so d16_13 rfl)
theorem d16_14 : decode (pz_b 16) 14 = .ok (.ireturn, 1) := by decide +kernel
theorem q16_14z {dA : Nat → ClassId} {d : Nat} {st : List Value} {f : pz_F} {Q : Option Value → pz_F → Prop} {v0 : Value} : pz_R dA d 16 14 [v0] [.int 0] f Q = Q (some (.int 0)) f := pz_gri d16_14 rfl rfl
theorem q16_14o {dA : Nat → ClassId} {d : Nat} {st : List Value} {f : pz_F} {Q : Option Value → pz_F → Prop} {v0 : Value} : pz_R dA d 16 14 [v0] [.int 1] f Q = Q (some (.int 1)) f := pz_gri d16_14 rfl rfl
/-! P_isDownOrRecovering (LLeasePair$Server;)Z -/
theorem e17 {dA : Nat → ClassId} {d : Nat} {f : pz_F} {Q : Option Value → pz_F → Prop} {a0 : Nat} : pz_C dA d 17 [.ref a0] f Q = pz_R dA d 17 0 [.ref a0] [] f Q := rfl
theorem d17_0 : decode (pz_b 17) 0 = .ok (.aload_n 0, 1) := by decide +kernel
theorem q17_0 {dA : Nat → ClassId} {d : Nat} {st : List Value} {f : pz_F} {Q : Option Value → pz_F → Prop} {x : Nat} : pz_R dA d 17 0 [.ref x] st f Q = pz_R dA d 17 1 [.ref x] (.ref x :: st) f Q := pz_go (pz_so d17_0 rfl)
theorem d17_1 : decode (pz_b 17) 1 = .ok (.getfield 46, 3) := by decide +kernel
theorem q17_1 {dA : Nat → ClassId} {d : Nat} {st : List Value} {f : pz_F} {Q : Option Value → pz_F → Prop} {v0 : Value} {a : Nat} : pz_R dA d 17 1 [v0] (.ref a :: st) f Q = pz_o (pz_gf f a 1 2) (fun v => pz_R dA d 17 4 [v0] (v :: st) f Q) := pz_gg d17_1 rfl
theorem d17_4 : decode (pz_b 17) 4 = .ok (.ifCond .eq 11, 3) := by decide +kernel
theorem q17_4 {dA : Nat → ClassId} {d : Nat} {st : List Value} {f : pz_F} {Q : Option Value → pz_F → Prop} {v0 : Value} {x : Int32} : pz_R dA d 17 4 [v0] (.int x :: st) f Q = (if x = 0 then pz_R dA d 17 15 [v0] st f Q else pz_R dA d 17 7 [v0] st f Q) := pz_gj1 .eq d17_4 rfl
theorem d17_7 : decode (pz_b 17) 7 = .ok (.aload_n 0, 1) := by decide +kernel
theorem q17_7 {dA : Nat → ClassId} {d : Nat} {st : List Value} {f : pz_F} {Q : Option Value → pz_F → Prop} {x : Nat} : pz_R dA d 17 7 [.ref x] st f Q = pz_R dA d 17 8 [.ref x] (.ref x :: st) f Q := pz_go (pz_so d17_7 rfl)
theorem d17_8 : decode (pz_b 17) 8 = .ok (.getfield 46, 3) := by decide +kernel
theorem q17_8 {dA : Nat → ClassId} {d : Nat} {st : List Value} {f : pz_F} {Q : Option Value → pz_F → Prop} {v0 : Value} {a : Nat} : pz_R dA d 17 8 [v0] (.ref a :: st) f Q = pz_o (pz_gf f a 1 2) (fun v => pz_R dA d 17 11 [v0] (v :: st) f Q) := pz_gg d17_8 rfl
theorem d17_11 : decode (pz_b 17) 11 = .ok (.iconst 4, 1) := by decide +kernel
theorem q17_11 {dA : Nat → ClassId} {d : Nat} {st : List Value} {f : pz_F} {Q : Option Value → pz_F → Prop} {v0 : Value} : pz_R dA d 17 11 [v0] st f Q = pz_R dA d 17 12 [v0] (.int 4 :: st) f Q := pz_go (pz_so d17_11 rfl)
theorem d17_12 : decode (pz_b 17) 12 = .ok (.if_icmp .ne 7, 3) := by decide +kernel
theorem q17_12 {dA : Nat → ClassId} {d : Nat} {st : List Value} {f : pz_F} {Q : Option Value → pz_F → Prop} {v0 : Value} {x y : Int32} : pz_R dA d 17 12 [v0] (.int y :: .int x :: st) f Q = (if x = y then pz_R dA d 17 15 [v0] st f Q else pz_R dA d 17 19 [v0] st f Q) := pz_gjn .ne d17_12 rfl
theorem d17_15 : decode (pz_b 17) 15 = .ok (.iconst 1, 1) := by decide +kernel
theorem q17_15 {dA : Nat → ClassId} {d : Nat} {st : List Value} {f : pz_F} {Q : Option Value → pz_F → Prop} {v0 : Value} : pz_R dA d 17 15 [v0] st f Q = pz_R dA d 17 16 [v0] (.int 1 :: st) f Q := pz_go (pz_so d17_15 rfl)
theorem d17_16 : decode (pz_b 17) 16 = .ok (.goto 4, 3) := by decide +kernel
theorem q17_16 {dA : Nat → ClassId} {d : Nat} {st : List Value} {f : pz_F} {Q : Option Value → pz_F → Prop} {v0 : Value} : pz_R dA d 17 16 [v0] st f Q = pz_R dA d 17 20 [v0] st f Q := pz_go (pz_so d17_16 rfl)
theorem d17_19 : decode (pz_b 17) 19 = .ok (.iconst 0, 1) := by decide +kernel
theorem q17_19 {dA : Nat → ClassId} {d : Nat} {st : List Value} {f : pz_F} {Q : Option Value → pz_F → Prop} {v0 : Value} : pz_R dA d 17 19 [v0] st f Q = pz_R dA d 17 20 [v0] (.int 0 :: st) f Q := pz_go (pz_so d17_19 rfl)
theorem d17_20 : decode (pz_b 17) 20 = .ok (.ireturn, 1) := by decide +kernel
theorem q17_20z {dA : Nat → ClassId} {d : Nat} {st : List Value} {f : pz_F} {Q : Option Value → pz_F → Prop} {v0 : Value} : pz_R dA d 17 20 [v0] [.int 0] f Q = Q (some (.int 0)) f := pz_gri d17_20 rfl rfl
theorem q17_20o {dA : Nat → ClassId} {d : Nat} {st : List Value} {f : pz_F} {Q : Option Value → pz_F → Prop} {v0 : Value} : pz_R dA d 17 20 [v0] [.int 1] f Q = Q (some (.int 1)) f := pz_gri d17_20 rfl rfl
/-! P_partnerOf (LLeasePair$Server;)LLeasePair$Server; -/
theorem e18 {dA : Nat → ClassId} {d : Nat} {f : pz_F} {Q : Option Value → pz_F → Prop} {a0 : Nat} {a1 : Nat} : pz_C dA d 18 [.ref a0, .ref a1] f Q = pz_R dA d 18 0 [.ref a0, .ref a1] [] f Q := rfl
theorem d18_0 : decode (pz_b 18) 0 = .ok (.aload_n 0, 1) := by decide +kernel
theorem q18_0 {dA : Nat → ClassId} {d : Nat} {st : List Value} {f : pz_F} {Q : Option Value → pz_F → Prop} {v1 : Value} {x : Nat} : pz_R dA d 18 0 [.ref x, v1] st f Q = pz_R dA d 18 1 [.ref x, v1] (.ref x :: st) f Q := pz_go (pz_so d18_0 rfl)
theorem d18_1 : decode (pz_b 18) 1 = .ok (.getfield 19, 3) := by decide +kernel
theorem q18_1 {dA : Nat → ClassId} {d : Nat} {st : List Value} {f : pz_F} {Q : Option Value → pz_F → Prop} {v0 v1 : Value} {a : Nat} : pz_R dA d 18 1 [v0, v1] (.ref a :: st) f Q = pz_o (pz_gf f a 0 2) (fun v => pz_R dA d 18 4 [v0, v1] (v :: st) f Q) := pz_gg d18_1 rfl
theorem d18_4 : decode (pz_b 18) 4 = .ok (.iconst 1, 1) := by decide +kernel
theorem q18_4 {dA : Nat → ClassId} {d : Nat} {st : List Value} {f : pz_F} {Q : Option Value → pz_F → Prop} {v0 v1 : Value} : pz_R dA d 18 4 [v0, v1] st f Q = pz_R dA d 18 5 [v0, v1] (.int 1 :: st) f Q := pz_go (pz_so d18_4 rfl)
theorem d18_5 : decode (pz_b 18) 5 = .ok (.aload_n 1, 1) := by decide +kernel
theorem q18_5 {dA : Nat → ClassId} {d : Nat} {st : List Value} {f : pz_F} {Q : Option Value → pz_F → Prop} {v0 : Value} {x : Nat} : pz_R dA d 18 5 [v0, .ref x] st f Q = pz_R dA d 18 6 [v0, .ref x] (.ref x :: st) f Q := pz_go (pz_so d18_5 rfl)
theorem q18_5n {dA : Nat → ClassId} {d : Nat} {st : List Value} {f : pz_F} {Q : Option Value → pz_F → Prop} {v0 : Value} : pz_R dA d 18 5 [v0, .null] st f Q = pz_R dA d 18 6 [v0, .null] (.null :: st) f Q := pz_go (pz_so d18_5 rfl)
theorem d18_6 : decode (pz_b 18) 6 = .ok (.getfield 140, 3) := by decide +kernel
theorem q18_6 {dA : Nat → ClassId} {d : Nat} {st : List Value} {f : pz_F} {Q : Option Value → pz_F → Prop} {v0 v1 : Value} {a : Nat} : pz_R dA d 18 6 [v0, v1] (.ref a :: st) f Q = pz_o (pz_gf f a 1 0) (fun v => pz_R dA d 18 9 [v0, v1] (v :: st) f Q) := pz_gg d18_6 rfl
theorem d18_9 : decode (pz_b 18) 9 = .ok (.isub, 1) := by decide +kernel
theorem q18_9 {dA : Nat → ClassId} {d : Nat} {st : List Value} {f : pz_F} {Q : Option Value → pz_F → Prop} {v0 v1 : Value} {x y : Int32} : pz_R dA d 18 9 [v0, v1] (.int y :: .int x :: st) f Q = pz_R dA d 18 10 [v0, v1] (.int (x - y) :: st) f Q := pz_go (pz_so d18_9 rfl)
theorem d18_10 : decode (pz_b 18) 10 = .ok (.aaload, 1) := by decide +kernel
theorem q18_10 {dA : Nat → ClassId} {d : Nat} {st : List Value} {f : pz_F} {Q : Option Value → pz_F → Prop} {v0 v1 : Value} {i : Int32} {a : Nat} : pz_R dA d 18 10 [v0, v1] (.int i :: .ref a :: st) f Q = pz_o (pz_rl dA f a i) (fun v => pz_R dA d 18 11 [v0, v1] (v :: st) f Q) := pz_grl d18_10
theorem d18_11 : decode (pz_b 18) 11 = .ok (.areturn, 1) := by decide +kernel
theorem q18_11 {dA : Nat → ClassId} {d : Nat} {st : List Value} {f : pz_F} {Q : Option Value → pz_F → Prop} {v0 v1 : Value} {x : Nat} : pz_R dA d 18 11 [v0, v1] [.ref x] f Q = Q (some (.ref x)) f := pz_gr (pz_so d18_11 rfl)
theorem q18_11n {dA : Nat → ClassId} {d : Nat} {st : List Value} {f : pz_F} {Q : Option Value → pz_F → Prop} {v0 v1 : Value} : pz_R dA d 18 11 [v0, v1] [.null] f Q = Q (some .null) f := pz_gr (pz_so d18_11 rfl)
/-! P_hasContact ()Z -/
theorem e19 {dA : Nat → ClassId} {d : Nat} {f : pz_F} {Q : Option Value → pz_F → Prop} {a0 : Nat} : pz_C dA d 19 [.ref a0] f Q = pz_R dA d 19 0 [.ref a0] [] f Q := rfl
theorem d19_0 : decode (pz_b 19) 0 = .ok (.aload_n 0, 1) := by decide +kernel
theorem q19_0 {dA : Nat → ClassId} {d : Nat} {st : List Value} {f : pz_F} {Q : Option Value → pz_F → Prop} {x : Nat} : pz_R dA d 19 0 [.ref x] st f Q = pz_R dA d 19 1 [.ref x] (.ref x :: st) f Q := pz_go (pz_so d19_0 rfl)
theorem d19_1 : decode (pz_b 19) 1 = .ok (.getfield 13, 3) := by decide +kernel
theorem q19_1 {dA : Nat → ClassId} {d : Nat} {st : List Value} {f : pz_F} {Q : Option Value → pz_F → Prop} {v0 : Value} {a : Nat} : pz_R dA d 19 1 [v0] (.ref a :: st) f Q = pz_o (pz_gf f a 0 1) (fun v => pz_R dA d 19 4 [v0] (v :: st) f Q) := pz_gg d19_1 rfl
theorem d19_4 : decode (pz_b 19) 4 = .ok (.ifCond .eq 31, 3) := by decide +kernel
theorem q19_4 {dA : Nat → ClassId} {d : Nat} {st : List Value} {f : pz_F} {Q : Option Value → pz_F → Prop} {v0 : Value} {x : Int32} : pz_R dA d 19 4 [v0] (.int x :: st) f Q = (if x = 0 then pz_R dA d 19 35 [v0] st f Q else pz_R dA d 19 7 [v0] st f Q) := pz_gj1 .eq d19_4 rfl
theorem d19_7 : decode (pz_b 19) 7 = .ok (.aload_n 0, 1) := by decide +kernel
theorem q19_7 {dA : Nat → ClassId} {d : Nat} {st : List Value} {f : pz_F} {Q : Option Value → pz_F → Prop} {x : Nat} : pz_R dA d 19 7 [.ref x] st f Q = pz_R dA d 19 8 [.ref x] (.ref x :: st) f Q := pz_go (pz_so d19_7 rfl)
theorem d19_8 : decode (pz_b 19) 8 = .ok (.getfield 19, 3) := by decide +kernel
theorem q19_8 {dA : Nat → ClassId} {d : Nat} {st : List Value} {f : pz_F} {Q : Option Value → pz_F → Prop} {v0 : Value} {a : Nat} : pz_R dA d 19 8 [v0] (.ref a :: st) f Q = pz_o (pz_gf f a 0 2) (fun v => pz_R dA d 19 11 [v0] (v :: st) f Q) := pz_gg d19_8 rfl
theorem d19_11 : decode (pz_b 19) 11 = .ok (.iconst 0, 1) := by decide +kernel
theorem q19_11 {dA : Nat → ClassId} {d : Nat} {st : List Value} {f : pz_F} {Q : Option Value → pz_F → Prop} {v0 : Value} : pz_R dA d 19 11 [v0] st f Q = pz_R dA d 19 12 [v0] (.int 0 :: st) f Q := pz_go (pz_so d19_11 rfl)
theorem d19_12 : decode (pz_b 19) 12 = .ok (.aaload, 1) := by decide +kernel
theorem q19_12 {dA : Nat → ClassId} {d : Nat} {st : List Value} {f : pz_F} {Q : Option Value → pz_F → Prop} {v0 : Value} {i : Int32} {a : Nat} : pz_R dA d 19 12 [v0] (.int i :: .ref a :: st) f Q = pz_o (pz_rl dA f a i) (fun v => pz_R dA d 19 13 [v0] (v :: st) f Q) := pz_grl d19_12
theorem d19_13 : decode (pz_b 19) 13 = .ok (.getfield 46, 3) := by decide +kernel
theorem q19_13 {dA : Nat → ClassId} {d : Nat} {st : List Value} {f : pz_F} {Q : Option Value → pz_F → Prop} {v0 : Value} {a : Nat} : pz_R dA d 19 13 [v0] (.ref a :: st) f Q = pz_o (pz_gf f a 1 2) (fun v => pz_R dA d 19 16 [v0] (v :: st) f Q) := pz_gg d19_13 rfl
theorem d19_16 : decode (pz_b 19) 16 = .ok (.ifCond .eq 19, 3) := by decide +kernel
theorem q19_16 {dA : Nat → ClassId} {d : Nat} {st : List Value} {f : pz_F} {Q : Option Value → pz_F → Prop} {v0 : Value} {x : Int32} : pz_R dA d 19 16 [v0] (.int x :: st) f Q = (if x = 0 then pz_R dA d 19 35 [v0] st f Q else pz_R dA d 19 19 [v0] st f Q) := pz_gj1 .eq d19_16 rfl
theorem d19_19 : decode (pz_b 19) 19 = .ok (.aload_n 0, 1) := by decide +kernel
theorem q19_19 {dA : Nat → ClassId} {d : Nat} {st : List Value} {f : pz_F} {Q : Option Value → pz_F → Prop} {x : Nat} : pz_R dA d 19 19 [.ref x] st f Q = pz_R dA d 19 20 [.ref x] (.ref x :: st) f Q := pz_go (pz_so d19_19 rfl)
theorem d19_20 : decode (pz_b 19) 20 = .ok (.getfield 19, 3) := by decide +kernel
theorem q19_20 {dA : Nat → ClassId} {d : Nat} {st : List Value} {f : pz_F} {Q : Option Value → pz_F → Prop} {v0 : Value} {a : Nat} : pz_R dA d 19 20 [v0] (.ref a :: st) f Q = pz_o (pz_gf f a 0 2) (fun v => pz_R dA d 19 23 [v0] (v :: st) f Q) := pz_gg d19_20 rfl
theorem d19_23 : decode (pz_b 19) 23 = .ok (.iconst 1, 1) := by decide +kernel
theorem q19_23 {dA : Nat → ClassId} {d : Nat} {st : List Value} {f : pz_F} {Q : Option Value → pz_F → Prop} {v0 : Value} : pz_R dA d 19 23 [v0] st f Q = pz_R dA d 19 24 [v0] (.int 1 :: st) f Q := pz_go (pz_so d19_23 rfl)
theorem d19_24 : decode (pz_b 19) 24 = .ok (.aaload, 1) := by decide +kernel
theorem q19_24 {dA : Nat → ClassId} {d : Nat} {st : List Value} {f : pz_F} {Q : Option Value → pz_F → Prop} {v0 : Value} {i : Int32} {a : Nat} : pz_R dA d 19 24 [v0] (.int i :: .ref a :: st) f Q = pz_o (pz_rl dA f a i) (fun v => pz_R dA d 19 25 [v0] (v :: st) f Q) := pz_grl d19_24
theorem d19_25 : decode (pz_b 19) 25 = .ok (.getfield 46, 3) := by decide +kernel
theorem q19_25 {dA : Nat → ClassId} {d : Nat} {st : List Value} {f : pz_F} {Q : Option Value → pz_F → Prop} {v0 : Value} {a : Nat} : pz_R dA d 19 25 [v0] (.ref a :: st) f Q = pz_o (pz_gf f a 1 2) (fun v => pz_R dA d 19 28 [v0] (v :: st) f Q) := pz_gg d19_25 rfl
theorem d19_28 : decode (pz_b 19) 28 = .ok (.ifCond .eq 7, 3) := by decide +kernel
theorem q19_28 {dA : Nat → ClassId} {d : Nat} {st : List Value} {f : pz_F} {Q : Option Value → pz_F → Prop} {v0 : Value} {x : Int32} : pz_R dA d 19 28 [v0] (.int x :: st) f Q = (if x = 0 then pz_R dA d 19 35 [v0] st f Q else pz_R dA d 19 31 [v0] st f Q) := pz_gj1 .eq d19_28 rfl
theorem d19_31 : decode (pz_b 19) 31 = .ok (.iconst 1, 1) := by decide +kernel
theorem q19_31 {dA : Nat → ClassId} {d : Nat} {st : List Value} {f : pz_F} {Q : Option Value → pz_F → Prop} {v0 : Value} : pz_R dA d 19 31 [v0] st f Q = pz_R dA d 19 32 [v0] (.int 1 :: st) f Q := pz_go (pz_so d19_31 rfl)
theorem d19_32 : decode (pz_b 19) 32 = .ok (.goto 4, 3) := by decide +kernel
theorem q19_32 {dA : Nat → ClassId} {d : Nat} {st : List Value} {f : pz_F} {Q : Option Value → pz_F → Prop} {v0 : Value} : pz_R dA d 19 32 [v0] st f Q = pz_R dA d 19 36 [v0] st f Q := pz_go (pz_so d19_32 rfl)
theorem d19_35 : decode (pz_b 19) 35 = .ok (.iconst 0, 1) := by decide +kernel
theorem q19_35 {dA : Nat → ClassId} {d : Nat} {st : List Value} {f : pz_F} {Q : Option Value → pz_F → Prop} {v0 : Value} : pz_R dA d 19 35 [v0] st f Q = pz_R dA d 19 36 [v0] (.int 0 :: st) f Q := pz_go (pz_so d19_35 rfl)
theorem d19_36 : decode (pz_b 19) 36 = .ok (.ireturn, 1) := by decide +kernel
theorem q19_36z {dA : Nat → ClassId} {d : Nat} {st : List Value} {f : pz_F} {Q : Option Value → pz_F → Prop} {v0 : Value} : pz_R dA d 19 36 [v0] [.int 0] f Q = Q (some (.int 0)) f := pz_gri d19_36 rfl rfl
theorem q19_36o {dA : Nat → ClassId} {d : Nat} {st : List Value} {f : pz_F} {Q : Option Value → pz_F → Prop} {v0 : Value} : pz_R dA d 19 36 [v0] [.int 1] f Q = Q (some (.int 1)) f := pz_gri d19_36 rfl rfl
/-! P_tickServer (LLeasePair$Server;)V -/
theorem e20 {dA : Nat → ClassId} {d : Nat} {f : pz_F} {Q : Option Value → pz_F → Prop} {a0 : Nat} {a1 : Nat} : pz_C dA d 20 [.ref a0, .ref a1] f Q = pz_R dA d 20 0 [.ref a0, .ref a1] [] f Q := rfl
theorem d20_0 : decode (pz_b 20) 0 = .ok (.aload_n 1, 1) := by decide +kernel
theorem q20_0 {dA : Nat → ClassId} {d : Nat} {st : List Value} {f : pz_F} {Q : Option Value → pz_F → Prop} {v0 : Value} {x : Nat} : pz_R dA d 20 0 [v0, .ref x] st f Q = pz_R dA d 20 1 [v0, .ref x] (.ref x :: st) f Q := pz_go (pz_so d20_0 rfl)
theorem q20_0n {dA : Nat → ClassId} {d : Nat} {st : List Value} {f : pz_F} {Q : Option Value → pz_F → Prop} {v0 : Value} : pz_R dA d 20 0 [v0, .null] st f Q = pz_R dA d 20 1 [v0, .null] (.null :: st) f Q := pz_go (pz_so d20_0 rfl)
theorem d20_1 : decode (pz_b 20) 1 = .ok (.aload_n 0, 1) := by decide +kernel
theorem q20_1 {dA : Nat → ClassId} {d : Nat} {st : List Value} {f : pz_F} {Q : Option Value → pz_F → Prop} {v1 : Value} {x : Nat} : pz_R dA d 20 1 [.ref x, v1] st f Q = pz_R dA d 20 2 [.ref x, v1] (.ref x :: st) f Q := pz_go (pz_so d20_1 rfl)
theorem d20_2 : decode (pz_b 20) 2 = .ok (.invokevirtual 143, 3) := by decide +kernel
theorem q20_2 {dA : Nat → ClassId} {d : Nat} {st : List Value} {f : pz_F} {Q : Option Value → pz_F → Prop} {v0 v1 : Value} {b : Nat} (hr : st.length ≤ 4) : pz_R dA (d + 1) 20 2 [v0, v1] (.ref b :: st) f Q = pz_o (pz_gu f b 0) (fun _ => pz_C dA d 19 [.ref b] f (fun r f' => pz_R dA (d + 1) 20 5 [v0, v1] (r.toList ++ st) f' Q)) := pz_gcv (As := []) d20_2 rfl rfl rfl hr
theorem d20_5 : decode (pz_b 20) 5 = .ok (.aload_n 0, 1) := by decide +kernel
theorem q20_5 {dA : Nat → ClassId} {d : Nat} {st : List Value} {f : pz_F} {Q : Option Value → pz_F → Prop} {v1 : Value} {x : Nat} : pz_R dA d 20 5 [.ref x, v1] st f Q = pz_R dA d 20 6 [.ref x, v1] (.ref x :: st) f Q := pz_go (pz_so d20_5 rfl)
theorem d20_6 : decode (pz_b 20) 6 = .ok (.getfield 7, 3) := by decide +kernel
theorem q20_6 {dA : Nat → ClassId} {d : Nat} {st : List Value} {f : pz_F} {Q : Option Value → pz_F → Prop} {v0 v1 : Value} {a : Nat} : pz_R dA d 20 6 [v0, v1] (.ref a :: st) f Q = pz_o (pz_gf f a 0 0) (fun v => pz_R dA d 20 9 [v0, v1] (v :: st) f Q) := pz_gg d20_6 rfl
theorem d20_9 : decode (pz_b 20) 9 = .ok (.invokevirtual 147, 3) := by decide +kernel
theorem q20_9 {dA : Nat → ClassId} {d : Nat} {st : List Value} {f : pz_F} {Q : Option Value → pz_F → Prop} {v0 v1 : Value} {c0 : Int32} {c1 : Int32} {b : Nat} (hr : st.length ≤ 4) : pz_R dA (d + 1) 20 9 [v0, v1] (.int c1 :: .int c0 :: .ref b :: st) f Q = pz_o (pz_gu f b 1) (fun _ => pz_C dA d 40 [.ref b, .int c0, .int c1] f (fun r f' => pz_R dA (d + 1) 20 12 [v0, v1] (r.toList ++ st) f' Q)) := pz_gcv (As := [.int c0, .int c1]) d20_9 rfl rfl rfl hr
theorem d20_12 : decode (pz_b 20) 12 = .ok (.aload_n 1, 1) := by decide +kernel
theorem q20_12 {dA : Nat → ClassId} {d : Nat} {st : List Value} {f : pz_F} {Q : Option Value → pz_F → Prop} {v0 : Value} {x : Nat} : pz_R dA d 20 12 [v0, .ref x] st f Q = pz_R dA d 20 13 [v0, .ref x] (.ref x :: st) f Q := pz_go (pz_so d20_12 rfl)
theorem q20_12n {dA : Nat → ClassId} {d : Nat} {st : List Value} {f : pz_F} {Q : Option Value → pz_F → Prop} {v0 : Value} : pz_R dA d 20 12 [v0, .null] st f Q = pz_R dA d 20 13 [v0, .null] (.null :: st) f Q := pz_go (pz_so d20_12 rfl)
theorem d20_13 : decode (pz_b 20) 13 = .ok (.invokevirtual 151, 3) := by decide +kernel
theorem q20_13 {dA : Nat → ClassId} {d : Nat} {st : List Value} {f : pz_F} {Q : Option Value → pz_F → Prop} {v0 v1 : Value} {b : Nat} (hr : st.length ≤ 4) : pz_R dA (d + 1) 20 13 [v0, v1] (.ref b :: st) f Q = pz_o (pz_gu f b 1) (fun _ => pz_C dA d 36 [.ref b] f (fun r f' => pz_R dA (d + 1) 20 16 [v0, v1] (r.toList ++ st) f' Q)) := pz_gcv (As := []) d20_13 rfl rfl rfl hr
theorem d20_16 : decode (pz_b 20) 16 = .ok (.ifCond .eq 11, 3) := by decide +kernel
theorem q20_16 {dA : Nat → ClassId} {d : Nat} {st : List Value} {f : pz_F} {Q : Option Value → pz_F → Prop} {v0 v1 : Value} {x : Int32} : pz_R dA d 20 16 [v0, v1] (.int x :: st) f Q = (if x = 0 then pz_R dA d 20 27 [v0, v1] st f Q else pz_R dA d 20 19 [v0, v1] st f Q) := pz_gj1 .eq d20_16 rfl
theorem d20_19 : decode (pz_b 20) 19 = .ok (.aload_n 1, 1) := by decide +kernel
theorem q20_19 {dA : Nat → ClassId} {d : Nat} {st : List Value} {f : pz_F} {Q : Option Value → pz_F → Prop} {v0 : Value} {x : Nat} : pz_R dA d 20 19 [v0, .ref x] st f Q = pz_R dA d 20 20 [v0, .ref x] (.ref x :: st) f Q := pz_go (pz_so d20_19 rfl)
theorem q20_19n {dA : Nat → ClassId} {d : Nat} {st : List Value} {f : pz_F} {Q : Option Value → pz_F → Prop} {v0 : Value} : pz_R dA d 20 19 [v0, .null] st f Q = pz_R dA d 20 20 [v0, .null] (.null :: st) f Q := pz_go (pz_so d20_19 rfl)
theorem d20_20 : decode (pz_b 20) 20 = .ok (.aload_n 0, 1) := by decide +kernel
theorem q20_20 {dA : Nat → ClassId} {d : Nat} {st : List Value} {f : pz_F} {Q : Option Value → pz_F → Prop} {v1 : Value} {x : Nat} : pz_R dA d 20 20 [.ref x, v1] st f Q = pz_R dA d 20 21 [.ref x, v1] (.ref x :: st) f Q := pz_go (pz_so d20_20 rfl)
theorem d20_21 : decode (pz_b 20) 21 = .ok (.getfield 7, 3) := by decide +kernel
theorem q20_21 {dA : Nat → ClassId} {d : Nat} {st : List Value} {f : pz_F} {Q : Option Value → pz_F → Prop} {v0 v1 : Value} {a : Nat} : pz_R dA d 20 21 [v0, v1] (.ref a :: st) f Q = pz_o (pz_gf f a 0 0) (fun v => pz_R dA d 20 24 [v0, v1] (v :: st) f Q) := pz_gg d20_21 rfl
theorem d20_24 : decode (pz_b 20) 24 = .ok (.invokevirtual 154, 3) := by decide +kernel
theorem q20_24 {dA : Nat → ClassId} {d : Nat} {st : List Value} {f : pz_F} {Q : Option Value → pz_F → Prop} {v0 v1 : Value} {c0 : Int32} {b : Nat} (hr : st.length ≤ 4) : pz_R dA (d + 1) 20 24 [v0, v1] (.int c0 :: .ref b :: st) f Q = pz_o (pz_gu f b 1) (fun _ => pz_C dA d 42 [.ref b, .int c0] f (fun r f' => pz_R dA (d + 1) 20 27 [v0, v1] (r.toList ++ st) f' Q)) := pz_gcv (As := [.int c0]) d20_24 rfl rfl rfl hr
theorem d20_27 : decode (pz_b 20) 27 = .ok (.aload_n 0, 1) := by decide +kernel
theorem q20_27 {dA : Nat → ClassId} {d : Nat} {st : List Value} {f : pz_F} {Q : Option Value → pz_F → Prop} {v1 : Value} {x : Nat} : pz_R dA d 20 27 [.ref x, v1] st f Q = pz_R dA d 20 28 [.ref x, v1] (.ref x :: st) f Q := pz_go (pz_so d20_27 rfl)
theorem d20_28 : decode (pz_b 20) 28 = .ok (.invokevirtual 143, 3) := by decide +kernel
theorem q20_28 {dA : Nat → ClassId} {d : Nat} {st : List Value} {f : pz_F} {Q : Option Value → pz_F → Prop} {v0 v1 : Value} {b : Nat} (hr : st.length ≤ 4) : pz_R dA (d + 1) 20 28 [v0, v1] (.ref b :: st) f Q = pz_o (pz_gu f b 0) (fun _ => pz_C dA d 19 [.ref b] f (fun r f' => pz_R dA (d + 1) 20 31 [v0, v1] (r.toList ++ st) f' Q)) := pz_gcv (As := []) d20_28 rfl rfl rfl hr
theorem d20_31 : decode (pz_b 20) 31 = .ok (.ifCond .eq 8, 3) := by decide +kernel
theorem q20_31 {dA : Nat → ClassId} {d : Nat} {st : List Value} {f : pz_F} {Q : Option Value → pz_F → Prop} {v0 v1 : Value} {x : Int32} : pz_R dA d 20 31 [v0, v1] (.int x :: st) f Q = (if x = 0 then pz_R dA d 20 39 [v0, v1] st f Q else pz_R dA d 20 34 [v0, v1] st f Q) := pz_gj1 .eq d20_31 rfl
theorem d20_34 : decode (pz_b 20) 34 = .ok (.aload_n 0, 1) := by decide +kernel
theorem q20_34 {dA : Nat → ClassId} {d : Nat} {st : List Value} {f : pz_F} {Q : Option Value → pz_F → Prop} {v1 : Value} {x : Nat} : pz_R dA d 20 34 [.ref x, v1] st f Q = pz_R dA d 20 35 [.ref x, v1] (.ref x :: st) f Q := pz_go (pz_so d20_34 rfl)
theorem d20_35 : decode (pz_b 20) 35 = .ok (.aload_n 1, 1) := by decide +kernel
theorem q20_35 {dA : Nat → ClassId} {d : Nat} {st : List Value} {f : pz_F} {Q : Option Value → pz_F → Prop} {v0 : Value} {x : Nat} : pz_R dA d 20 35 [v0, .ref x] st f Q = pz_R dA d 20 36 [v0, .ref x] (.ref x :: st) f Q := pz_go (pz_so d20_35 rfl)
theorem q20_35n {dA : Nat → ClassId} {d : Nat} {st : List Value} {f : pz_F} {Q : Option Value → pz_F → Prop} {v0 : Value} : pz_R dA d 20 35 [v0, .null] st f Q = pz_R dA d 20 36 [v0, .null] (.null :: st) f Q := pz_go (pz_so d20_35 rfl)
theorem d20_36 : decode (pz_b 20) 36 = .ok (.invokevirtual 157, 3) := by decide +kernel
theorem q20_36 {dA : Nat → ClassId} {d : Nat} {st : List Value} {f : pz_F} {Q : Option Value → pz_F → Prop} {v0 v1 : Value} {c0 : Nat} {b : Nat} (hr : st.length ≤ 4) : pz_R dA (d + 1) 20 36 [v0, v1] (.ref c0 :: .ref b :: st) f Q = pz_o (pz_gu f b 0) (fun _ => pz_C dA d 21 [.ref b, .ref c0] f (fun r f' => pz_R dA (d + 1) 20 39 [v0, v1] (r.toList ++ st) f' Q)) := pz_gcv (As := [.ref c0]) d20_36 rfl rfl rfl hr
theorem d20_39 : decode (pz_b 20) 39 = .ok (.return_, 1) := by decide +kernel
theorem q20_39 {dA : Nat → ClassId} {d : Nat} {st : List Value} {f : pz_F} {Q : Option Value → pz_F → Prop} {v0 v1 : Value} : pz_R dA d 20 39 [v0, v1] [] f Q = Q none f := pz_gr (pz_so d20_39 rfl)
/-! P_tellPartner (LLeasePair$Server;)V -/
theorem e21 {dA : Nat → ClassId} {d : Nat} {f : pz_F} {Q : Option Value → pz_F → Prop} {a0 : Nat} {a1 : Nat} : pz_C dA d 21 [.ref a0, .ref a1] f Q = pz_R dA d 21 0 [.ref a0, .ref a1] [] f Q := rfl
theorem d21_0 : decode (pz_b 21) 0 = .ok (.aload_n 1, 1) := by decide +kernel
theorem q21_0 {dA : Nat → ClassId} {d : Nat} {st : List Value} {f : pz_F} {Q : Option Value → pz_F → Prop} {v0 : Value} {x : Nat} : pz_R dA d 21 0 [v0, .ref x] st f Q = pz_R dA d 21 1 [v0, .ref x] (.ref x :: st) f Q := pz_go (pz_so d21_0 rfl)
theorem q21_0n {dA : Nat → ClassId} {d : Nat} {st : List Value} {f : pz_F} {Q : Option Value → pz_F → Prop} {v0 : Value} : pz_R dA d 21 0 [v0, .null] st f Q = pz_R dA d 21 1 [v0, .null] (.null :: st) f Q := pz_go (pz_so d21_0 rfl)
theorem d21_1 : decode (pz_b 21) 1 = .ok (.getfield 46, 3) := by decide +kernel
theorem q21_1 {dA : Nat → ClassId} {d : Nat} {st : List Value} {f : pz_F} {Q : Option Value → pz_F → Prop} {v0 v1 : Value} {a : Nat} : pz_R dA d 21 1 [v0, v1] (.ref a :: st) f Q = pz_o (pz_gf f a 1 2) (fun v => pz_R dA d 21 4 [v0, v1] (v :: st) f Q) := pz_gg d21_1 rfl
theorem d21_4 : decode (pz_b 21) 4 = .ok (.iconst 1, 1) := by decide +kernel
theorem q21_4 {dA : Nat → ClassId} {d : Nat} {st : List Value} {f : pz_F} {Q : Option Value → pz_F → Prop} {v0 v1 : Value} : pz_R dA d 21 4 [v0, v1] st f Q = pz_R dA d 21 5 [v0, v1] (.int 1 :: st) f Q := pz_go (pz_so d21_4 rfl)
theorem d21_5 : decode (pz_b 21) 5 = .ok (.if_icmp .ne 8, 3) := by decide +kernel
theorem q21_5 {dA : Nat → ClassId} {d : Nat} {st : List Value} {f : pz_F} {Q : Option Value → pz_F → Prop} {v0 v1 : Value} {x y : Int32} : pz_R dA d 21 5 [v0, v1] (.int y :: .int x :: st) f Q = (if x = y then pz_R dA d 21 8 [v0, v1] st f Q else pz_R dA d 21 13 [v0, v1] st f Q) := pz_gjn .ne d21_5 rfl
theorem d21_8 : decode (pz_b 21) 8 = .ok (.aload_n 0, 1) := by decide +kernel
theorem q21_8 {dA : Nat → ClassId} {d : Nat} {st : List Value} {f : pz_F} {Q : Option Value → pz_F → Prop} {v1 : Value} {x : Nat} : pz_R dA d 21 8 [.ref x, v1] st f Q = pz_R dA d 21 9 [.ref x, v1] (.ref x :: st) f Q := pz_go (pz_so d21_8 rfl)
theorem d21_9 : decode (pz_b 21) 9 = .ok (.aload_n 1, 1) := by decide +kernel
theorem q21_9 {dA : Nat → ClassId} {d : Nat} {st : List Value} {f : pz_F} {Q : Option Value → pz_F → Prop} {v0 : Value} {x : Nat} : pz_R dA d 21 9 [v0, .ref x] st f Q = pz_R dA d 21 10 [v0, .ref x] (.ref x :: st) f Q := pz_go (pz_so d21_9 rfl)
theorem q21_9n {dA : Nat → ClassId} {d : Nat} {st : List Value} {f : pz_F} {Q : Option Value → pz_F → Prop} {v0 : Value} : pz_R dA d 21 9 [v0, .null] st f Q = pz_R dA d 21 10 [v0, .null] (.null :: st) f Q := pz_go (pz_so d21_9 rfl)
theorem d21_10 : decode (pz_b 21) 10 = .ok (.invokevirtual 160, 3) := by decide +kernel
theorem q21_10 {dA : Nat → ClassId} {d : Nat} {st : List Value} {f : pz_F} {Q : Option Value → pz_F → Prop} {v0 v1 : Value} {c0 : Nat} {b : Nat} (hr : st.length ≤ 4) : pz_R dA (d + 1) 21 10 [v0, v1] (.ref c0 :: .ref b :: st) f Q = pz_o (pz_gu f b 0) (fun _ => pz_C dA d 22 [.ref b, .ref c0] f (fun r f' => pz_R dA (d + 1) 21 13 [v0, v1] (r.toList ++ st) f' Q)) := pz_gcv (As := [.ref c0]) d21_10 rfl rfl rfl hr
theorem d21_13 : decode (pz_b 21) 13 = .ok (.aload_n 1, 1) := by decide +kernel
theorem q21_13 {dA : Nat → ClassId} {d : Nat} {st : List Value} {f : pz_F} {Q : Option Value → pz_F → Prop} {v0 : Value} {x : Nat} : pz_R dA d 21 13 [v0, .ref x] st f Q = pz_R dA d 21 14 [v0, .ref x] (.ref x :: st) f Q := pz_go (pz_so d21_13 rfl)
theorem q21_13n {dA : Nat → ClassId} {d : Nat} {st : List Value} {f : pz_F} {Q : Option Value → pz_F → Prop} {v0 : Value} : pz_R dA d 21 13 [v0, .null] st f Q = pz_R dA d 21 14 [v0, .null] (.null :: st) f Q := pz_go (pz_so d21_13 rfl)
theorem d21_14 : decode (pz_b 21) 14 = .ok (.getfield 46, 3) := by decide +kernel
theorem q21_14 {dA : Nat → ClassId} {d : Nat} {st : List Value} {f : pz_F} {Q : Option Value → pz_F → Prop} {v0 v1 : Value} {a : Nat} : pz_R dA d 21 14 [v0, v1] (.ref a :: st) f Q = pz_o (pz_gf f a 1 2) (fun v => pz_R dA d 21 17 [v0, v1] (v :: st) f Q) := pz_gg d21_14 rfl
theorem d21_17 : decode (pz_b 21) 17 = .ok (.iconst 4, 1) := by decide +kernel
theorem q21_17 {dA : Nat → ClassId} {d : Nat} {st : List Value} {f : pz_F} {Q : Option Value → pz_F → Prop} {v0 v1 : Value} : pz_R dA d 21 17 [v0, v1] st f Q = pz_R dA d 21 18 [v0, v1] (.int 4 :: st) f Q := pz_go (pz_so d21_17 rfl)
theorem d21_18 : decode (pz_b 21) 18 = .ok (.if_icmp .ne 17, 3) := by decide +kernel
theorem q21_18 {dA : Nat → ClassId} {d : Nat} {st : List Value} {f : pz_F} {Q : Option Value → pz_F → Prop} {v0 v1 : Value} {x y : Int32} : pz_R dA d 21 18 [v0, v1] (.int y :: .int x :: st) f Q = (if x = y then pz_R dA d 21 21 [v0, v1] st f Q else pz_R dA d 21 35 [v0, v1] st f Q) := pz_gjn .ne d21_18 rfl
theorem d21_21 : decode (pz_b 21) 21 = .ok (.aload_n 1, 1) := by decide +kernel
theorem q21_21 {dA : Nat → ClassId} {d : Nat} {st : List Value} {f : pz_F} {Q : Option Value → pz_F → Prop} {v0 : Value} {x : Nat} : pz_R dA d 21 21 [v0, .ref x] st f Q = pz_R dA d 21 22 [v0, .ref x] (.ref x :: st) f Q := pz_go (pz_so d21_21 rfl)
theorem q21_21n {dA : Nat → ClassId} {d : Nat} {st : List Value} {f : pz_F} {Q : Option Value → pz_F → Prop} {v0 : Value} : pz_R dA d 21 21 [v0, .null] st f Q = pz_R dA d 21 22 [v0, .null] (.null :: st) f Q := pz_go (pz_so d21_21 rfl)
theorem d21_22 : decode (pz_b 21) 22 = .ok (.getfield 163, 3) := by decide +kernel
theorem q21_22 {dA : Nat → ClassId} {d : Nat} {st : List Value} {f : pz_F} {Q : Option Value → pz_F → Prop} {v0 v1 : Value} {a : Nat} : pz_R dA d 21 22 [v0, v1] (.ref a :: st) f Q = pz_o (pz_gf f a 1 6) (fun v => pz_R dA d 21 25 [v0, v1] (v :: st) f Q) := pz_gg d21_22 rfl
theorem d21_25 : decode (pz_b 21) 25 = .ok (.bipush 63, 2) := by decide +kernel
theorem q21_25 {dA : Nat → ClassId} {d : Nat} {st : List Value} {f : pz_F} {Q : Option Value → pz_F → Prop} {v0 v1 : Value} : pz_R dA d 21 25 [v0, v1] st f Q = pz_R dA d 21 27 [v0, v1] (.int 63 :: st) f Q := pz_go (pz_so d21_25 rfl)
theorem d21_27 : decode (pz_b 21) 27 = .ok (.if_icmp .eq 8, 3) := by decide +kernel
theorem q21_27 {dA : Nat → ClassId} {d : Nat} {st : List Value} {f : pz_F} {Q : Option Value → pz_F → Prop} {v0 v1 : Value} {x y : Int32} : pz_R dA d 21 27 [v0, v1] (.int y :: .int x :: st) f Q = (if x = y then pz_R dA d 21 35 [v0, v1] st f Q else pz_R dA d 21 30 [v0, v1] st f Q) := pz_gjn .eq d21_27 rfl
theorem d21_30 : decode (pz_b 21) 30 = .ok (.aload_n 0, 1) := by decide +kernel
theorem q21_30 {dA : Nat → ClassId} {d : Nat} {st : List Value} {f : pz_F} {Q : Option Value → pz_F → Prop} {v1 : Value} {x : Nat} : pz_R dA d 21 30 [.ref x, v1] st f Q = pz_R dA d 21 31 [.ref x, v1] (.ref x :: st) f Q := pz_go (pz_so d21_30 rfl)
theorem d21_31 : decode (pz_b 21) 31 = .ok (.aload_n 1, 1) := by decide +kernel
theorem q21_31 {dA : Nat → ClassId} {d : Nat} {st : List Value} {f : pz_F} {Q : Option Value → pz_F → Prop} {v0 : Value} {x : Nat} : pz_R dA d 21 31 [v0, .ref x] st f Q = pz_R dA d 21 32 [v0, .ref x] (.ref x :: st) f Q := pz_go (pz_so d21_31 rfl)
theorem q21_31n {dA : Nat → ClassId} {d : Nat} {st : List Value} {f : pz_F} {Q : Option Value → pz_F → Prop} {v0 : Value} : pz_R dA d 21 31 [v0, .null] st f Q = pz_R dA d 21 32 [v0, .null] (.null :: st) f Q := pz_go (pz_so d21_31 rfl)
theorem d21_32 : decode (pz_b 21) 32 = .ok (.invokevirtual 166, 3) := by decide +kernel
theorem q21_32 {dA : Nat → ClassId} {d : Nat} {st : List Value} {f : pz_F} {Q : Option Value → pz_F → Prop} {v0 v1 : Value} {c0 : Nat} {b : Nat} (hr : st.length ≤ 4) : pz_R dA (d + 1) 21 32 [v0, v1] (.ref c0 :: .ref b :: st) f Q = pz_o (pz_gu f b 0) (fun _ => pz_C dA d 24 [.ref b, .ref c0] f (fun r f' => pz_R dA (d + 1) 21 35 [v0, v1] (r.toList ++ st) f' Q)) := pz_gcv (As := [.ref c0]) d21_32 rfl rfl rfl hr
theorem d21_35 : decode (pz_b 21) 35 = .ok (.return_, 1) := by decide +kernel
theorem q21_35 {dA : Nat → ClassId} {d : Nat} {st : List Value} {f : pz_F} {Q : Option Value → pz_F → Prop} {v0 v1 : Value} : pz_R dA d 21 35 [v0, v1] [] f Q = Q none f := pz_gr (pz_so d21_35 rfl)
/-! P_sendUpdates (LLeasePair$Server;)V -/
theorem e22 {dA : Nat → ClassId} {d : Nat} {f : pz_F} {Q : Option Value → pz_F → Prop} {a0 : Nat} {a1 : Nat} : pz_C dA d 22 [.ref a0, .ref a1] f Q = pz_R dA d 22 0 [.ref a0, .ref a1, .retAddr 0, .retAddr 0] [] f Q := rfl
theorem d22_0 : decode (pz_b 22) 0 = .ok (.iconst 0, 1) := by decide +kernel
theorem q22_0 {dA : Nat → ClassId} {d : Nat} {st : List Value} {f : pz_F} {Q : Option Value → pz_F → Prop} {v0 v1 v2 v3 : Value} : pz_R dA d 22 0 [v0, v1, v2, v3] st f Q = pz_R dA d 22 1 [v0, v1, v2, v3] (.int 0 :: st) f Q := pz_go (pz_so d22_0 rfl)
theorem d22_1 : decode (pz_b 22) 1 = .ok (.istore_n 2, 1) := by decide +kernel
theorem q22_1 {dA : Nat → ClassId} {d : Nat} {st : List Value} {f : pz_F} {Q : Option Value → pz_F → Prop} {v0 v1 v2 v3 : Value} {x : Int32} : pz_R dA d 22 1 [v0, v1, v2, v3] (.int x :: st) f Q = pz_R dA d 22 2 [v0, v1, .int x, v3] st f Q := pz_go (pz_so d22_1 rfl)
theorem d22_2 : decode (pz_b 22) 2 = .ok (.iconst 0, 1) := by decide +kernel
theorem q22_2 {dA : Nat → ClassId} {d : Nat} {st : List Value} {f : pz_F} {Q : Option Value → pz_F → Prop} {v0 v1 v2 v3 : Value} : pz_R dA d 22 2 [v0, v1, v2, v3] st f Q = pz_R dA d 22 3 [v0, v1, v2, v3] (.int 0 :: st) f Q := pz_go (pz_so d22_2 rfl)
theorem d22_3 : decode (pz_b 22) 3 = .ok (.istore_n 3, 1) := by decide +kernel
theorem q22_3 {dA : Nat → ClassId} {d : Nat} {st : List Value} {f : pz_F} {Q : Option Value → pz_F → Prop} {v0 v1 v2 v3 : Value} {x : Int32} : pz_R dA d 22 3 [v0, v1, v2, v3] (.int x :: st) f Q = pz_R dA d 22 4 [v0, v1, v2, .int x] st f Q := pz_go (pz_so d22_3 rfl)
theorem d22_4 : decode (pz_b 22) 4 = .ok (.iload_n 3, 1) := by decide +kernel
theorem q22_4 {dA : Nat → ClassId} {d : Nat} {st : List Value} {f : pz_F} {Q : Option Value → pz_F → Prop} {v0 v1 v2 : Value} {x : Int32} : pz_R dA d 22 4 [v0, v1, v2, .int x] st f Q = pz_R dA d 22 5 [v0, v1, v2, .int x] (.int x :: st) f Q := pz_go (pz_so d22_4 rfl)
theorem d22_5 : decode (pz_b 22) 5 = .ok (.bipush 6, 2) := by decide +kernel
theorem q22_5 {dA : Nat → ClassId} {d : Nat} {st : List Value} {f : pz_F} {Q : Option Value → pz_F → Prop} {v0 v1 v2 v3 : Value} : pz_R dA d 22 5 [v0, v1, v2, v3] st f Q = pz_R dA d 22 7 [v0, v1, v2, v3] (.int 6 :: st) f Q := pz_go (pz_so d22_5 rfl)
theorem d22_7 : decode (pz_b 22) 7 = .ok (.if_icmp .ge 35, 3) := by decide +kernel
theorem q22_7 {dA : Nat → ClassId} {d : Nat} {st : List Value} {f : pz_F} {Q : Option Value → pz_F → Prop} {v0 v1 v2 v3 : Value} {x y : Int32} : pz_R dA d 22 7 [v0, v1, v2, v3] (.int y :: .int x :: st) f Q = (if y ≤ x then pz_R dA d 22 42 [v0, v1, v2, v3] st f Q else pz_R dA d 22 10 [v0, v1, v2, v3] st f Q) := pz_gjn .ge d22_7 rfl
theorem d22_10 : decode (pz_b 22) 10 = .ok (.iload_n 2, 1) := by decide +kernel
theorem q22_10 {dA : Nat → ClassId} {d : Nat} {st : List Value} {f : pz_F} {Q : Option Value → pz_F → Prop} {v0 v1 v3 : Value} {x : Int32} : pz_R dA d 22 10 [v0, v1, .int x, v3] st f Q = pz_R dA d 22 11 [v0, v1, .int x, v3] (.int x :: st) f Q := pz_go (pz_so d22_10 rfl)
theorem d22_11 : decode (pz_b 22) 11 = .ok (.iconst 2, 1) := by decide +kernel
theorem q22_11 {dA : Nat → ClassId} {d : Nat} {st : List Value} {f : pz_F} {Q : Option Value → pz_F → Prop} {v0 v1 v2 v3 : Value} : pz_R dA d 22 11 [v0, v1, v2, v3] st f Q = pz_R dA d 22 12 [v0, v1, v2, v3] (.int 2 :: st) f Q := pz_go (pz_so d22_11 rfl)
theorem d22_12 : decode (pz_b 22) 12 = .ok (.if_icmp .ge 30, 3) := by decide +kernel
theorem q22_12 {dA : Nat → ClassId} {d : Nat} {st : List Value} {f : pz_F} {Q : Option Value → pz_F → Prop} {v0 v1 v2 v3 : Value} {x y : Int32} : pz_R dA d 22 12 [v0, v1, v2, v3] (.int y :: .int x :: st) f Q = (if y ≤ x then pz_R dA d 22 42 [v0, v1, v2, v3] st f Q else pz_R dA d 22 15 [v0, v1, v2, v3] st f Q) := pz_gjn .ge d22_12 rfl
theorem d22_15 : decode (pz_b 22) 15 = .ok (.aload_n 1, 1) := by decide +kernel
theorem q22_15 {dA : Nat → ClassId} {d : Nat} {st : List Value} {f : pz_F} {Q : Option Value → pz_F → Prop} {v0 v2 v3 : Value} {x : Nat} : pz_R dA d 22 15 [v0, .ref x, v2, v3] st f Q = pz_R dA d 22 16 [v0, .ref x, v2, v3] (.ref x :: st) f Q := pz_go (pz_so d22_15 rfl)
theorem q22_15n {dA : Nat → ClassId} {d : Nat} {st : List Value} {f : pz_F} {Q : Option Value → pz_F → Prop} {v0 v2 v3 : Value} : pz_R dA d 22 15 [v0, .null, v2, v3] st f Q = pz_R dA d 22 16 [v0, .null, v2, v3] (.null :: st) f Q := pz_go (pz_so d22_15 rfl)
theorem d22_16 : decode (pz_b 22) 16 = .ok (.getfield 121, 3) := by decide +kernel
theorem q22_16 {dA : Nat → ClassId} {d : Nat} {st : List Value} {f : pz_F} {Q : Option Value → pz_F → Prop} {v0 v1 v2 v3 : Value} {a : Nat} : pz_R dA d 22 16 [v0, v1, v2, v3] (.ref a :: st) f Q = pz_o (pz_gf f a 1 1) (fun v => pz_R dA d 22 19 [v0, v1, v2, v3] (v :: st) f Q) := pz_gg d22_16 rfl
theorem d22_19 : decode (pz_b 22) 19 = .ok (.iload_n 3, 1) := by decide +kernel
theorem q22_19 {dA : Nat → ClassId} {d : Nat} {st : List Value} {f : pz_F} {Q : Option Value → pz_F → Prop} {v0 v1 v2 : Value} {x : Int32} : pz_R dA d 22 19 [v0, v1, v2, .int x] st f Q = pz_R dA d 22 20 [v0, v1, v2, .int x] (.int x :: st) f Q := pz_go (pz_so d22_19 rfl)
theorem d22_20 : decode (pz_b 22) 20 = .ok (.aaload, 1) := by decide +kernel
theorem q22_20 {dA : Nat → ClassId} {d : Nat} {st : List Value} {f : pz_F} {Q : Option Value → pz_F → Prop} {v0 v1 v2 v3 : Value} {i : Int32} {a : Nat} : pz_R dA d 22 20 [v0, v1, v2, v3] (.int i :: .ref a :: st) f Q = pz_o (pz_rl dA f a i) (fun v => pz_R dA d 22 21 [v0, v1, v2, v3] (v :: st) f Q) := pz_grl d22_20
theorem d22_21 : decode (pz_b 22) 21 = .ok (.getfield 169, 3) := by decide +kernel
theorem q22_21 {dA : Nat → ClassId} {d : Nat} {st : List Value} {f : pz_F} {Q : Option Value → pz_F → Prop} {v0 v1 v2 v3 : Value} {a : Nat} : pz_R dA d 22 21 [v0, v1, v2, v3] (.ref a :: st) f Q = pz_o (pz_gf f a 2 7) (fun v => pz_R dA d 22 24 [v0, v1, v2, v3] (v :: st) f Q) := pz_gg d22_21 rfl
theorem d22_24 : decode (pz_b 22) 24 = .ok (.ifCond .eq 12, 3) := by decide +kernel
theorem q22_24 {dA : Nat → ClassId} {d : Nat} {st : List Value} {f : pz_F} {Q : Option Value → pz_F → Prop} {v0 v1 v2 v3 : Value} {x : Int32} : pz_R dA d 22 24 [v0, v1, v2, v3] (.int x :: st) f Q = (if x = 0 then pz_R dA d 22 36 [v0, v1, v2, v3] st f Q else pz_R dA d 22 27 [v0, v1, v2, v3] st f Q) := pz_gj1 .eq d22_24 rfl
theorem d22_27 : decode (pz_b 22) 27 = .ok (.aload_n 0, 1) := by decide +kernel
theorem q22_27 {dA : Nat → ClassId} {d : Nat} {st : List Value} {f : pz_F} {Q : Option Value → pz_F → Prop} {v1 v2 v3 : Value} {x : Nat} : pz_R dA d 22 27 [.ref x, v1, v2, v3] st f Q = pz_R dA d 22 28 [.ref x, v1, v2, v3] (.ref x :: st) f Q := pz_go (pz_so d22_27 rfl)
theorem d22_28 : decode (pz_b 22) 28 = .ok (.aload_n 1, 1) := by decide +kernel
theorem q22_28 {dA : Nat → ClassId} {d : Nat} {st : List Value} {f : pz_F} {Q : Option Value → pz_F → Prop} {v0 v2 v3 : Value} {x : Nat} : pz_R dA d 22 28 [v0, .ref x, v2, v3] st f Q = pz_R dA d 22 29 [v0, .ref x, v2, v3] (.ref x :: st) f Q := pz_go (pz_so d22_28 rfl)
theorem q22_28n {dA : Nat → ClassId} {d : Nat} {st : List Value} {f : pz_F} {Q : Option Value → pz_F → Prop} {v0 v2 v3 : Value} : pz_R dA d 22 28 [v0, .null, v2, v3] st f Q = pz_R dA d 22 29 [v0, .null, v2, v3] (.null :: st) f Q := pz_go (pz_so d22_28 rfl)
theorem d22_29 : decode (pz_b 22) 29 = .ok (.iload_n 3, 1) := by decide +kernel
theorem q22_29 {dA : Nat → ClassId} {d : Nat} {st : List Value} {f : pz_F} {Q : Option Value → pz_F → Prop} {v0 v1 v2 : Value} {x : Int32} : pz_R dA d 22 29 [v0, v1, v2, .int x] st f Q = pz_R dA d 22 30 [v0, v1, v2, .int x] (.int x :: st) f Q := pz_go (pz_so d22_29 rfl)
theorem d22_30 : decode (pz_b 22) 30 = .ok (.invokevirtual 172, 3) := by decide +kernel
theorem q22_30 {dA : Nat → ClassId} {d : Nat} {st : List Value} {f : pz_F} {Q : Option Value → pz_F → Prop} {v0 v1 v2 v3 : Value} {c0 : Nat} {c1 : Int32} {b : Nat} (hr : st.length ≤ 4) : pz_R dA (d + 1) 22 30 [v0, v1, v2, v3] (.int c1 :: .ref c0 :: .ref b :: st) f Q = pz_o (pz_gu f b 0) (fun _ => pz_C dA d 23 [.ref b, .ref c0, .int c1] f (fun r f' => pz_R dA (d + 1) 22 33 [v0, v1, v2, v3] (r.toList ++ st) f' Q)) := pz_gcv (As := [.ref c0, .int c1]) d22_30 rfl rfl rfl hr
theorem d22_33 : decode (pz_b 22) 33 = .ok (.iinc 2 1, 3) := by decide +kernel
theorem q22_33 {dA : Nat → ClassId} {d : Nat} {st : List Value} {f : pz_F} {Q : Option Value → pz_F → Prop} {v0 v1 v3 : Value} {x : Int32} : pz_R dA d 22 33 [v0, v1, .int x, v3] st f Q = pz_R dA d 22 36 [v0, v1, .int (x + 1), v3] st f Q := pz_go (pz_so d22_33 rfl)
theorem d22_36 : decode (pz_b 22) 36 = .ok (.iinc 3 1, 3) := by decide +kernel
theorem q22_36 {dA : Nat → ClassId} {d : Nat} {st : List Value} {f : pz_F} {Q : Option Value → pz_F → Prop} {v0 v1 v2 : Value} {x : Int32} : pz_R dA d 22 36 [v0, v1, v2, .int x] st f Q = pz_R dA d 22 39 [v0, v1, v2, .int (x + 1)] st f Q := pz_go (pz_so d22_36 rfl)
theorem d22_39 : decode (pz_b 22) 39 = .ok (.goto (-35), 3) := by decide +kernel
theorem q22_39 {dA : Nat → ClassId} {d : Nat} {st : List Value} {f : pz_F} {Q : Option Value → pz_F → Prop} {v0 v1 v2 v3 : Value} : pz_R dA d 22 39 [v0, v1, v2, v3] st f Q = pz_R dA d 22 4 [v0, v1, v2, v3] st f Q := pz_go (pz_so d22_39 rfl)
theorem d22_42 : decode (pz_b 22) 42 = .ok (.return_, 1) := by decide +kernel
theorem q22_42 {dA : Nat → ClassId} {d : Nat} {st : List Value} {f : pz_F} {Q : Option Value → pz_F → Prop} {v0 v1 v2 v3 : Value} : pz_R dA d 22 42 [v0, v1, v2, v3] [] f Q = Q none f := pz_gr (pz_so d22_42 rfl)
/-! P_sendUpdate (LLeasePair$Server;I)V -/
theorem e23 {dA : Nat → ClassId} {d : Nat} {f : pz_F} {Q : Option Value → pz_F → Prop} {a0 : Nat} {a1 : Nat} {a2 : Int32} : pz_C dA d 23 [.ref a0, .ref a1, .int a2] f Q = pz_R dA d 23 0 [.ref a0, .ref a1, .int a2, .retAddr 0, .retAddr 0] [] f Q := rfl
theorem d23_0 : decode (pz_b 23) 0 = .ok (.aload_n 0, 1) := by decide +kernel
theorem q23_0 {dA : Nat → ClassId} {d : Nat} {st : List Value} {f : pz_F} {Q : Option Value → pz_F → Prop} {v1 v2 v3 v4 : Value} {x : Nat} : pz_R dA d 23 0 [.ref x, v1, v2, v3, v4] st f Q = pz_R dA d 23 1 [.ref x, v1, v2, v3, v4] (.ref x :: st) f Q := pz_go (pz_so d23_0 rfl)
theorem d23_1 : decode (pz_b 23) 1 = .ok (.getfield 36, 3) := by decide +kernel
theorem q23_1 {dA : Nat → ClassId} {d : Nat} {st : List Value} {f : pz_F} {Q : Option Value → pz_F → Prop} {v0 v1 v2 v3 v4 : Value} {a : Nat} : pz_R dA d 23 1 [v0, v1, v2, v3, v4] (.ref a :: st) f Q = pz_o (pz_gf f a 0 4) (fun v => pz_R dA d 23 4 [v0, v1, v2, v3, v4] (v :: st) f Q) := pz_gg d23_1 rfl
theorem d23_4 : decode (pz_b 23) 4 = .ok (.iconst 4, 1) := by decide +kernel
theorem q23_4 {dA : Nat → ClassId} {d : Nat} {st : List Value} {f : pz_F} {Q : Option Value → pz_F → Prop} {v0 v1 v2 v3 v4 : Value} : pz_R dA d 23 4 [v0, v1, v2, v3, v4] st f Q = pz_R dA d 23 5 [v0, v1, v2, v3, v4] (.int 4 :: st) f Q := pz_go (pz_so d23_4 rfl)
theorem d23_5 : decode (pz_b 23) 5 = .ok (.aload_n 1, 1) := by decide +kernel
theorem q23_5 {dA : Nat → ClassId} {d : Nat} {st : List Value} {f : pz_F} {Q : Option Value → pz_F → Prop} {v0 v2 v3 v4 : Value} {x : Nat} : pz_R dA d 23 5 [v0, .ref x, v2, v3, v4] st f Q = pz_R dA d 23 6 [v0, .ref x, v2, v3, v4] (.ref x :: st) f Q := pz_go (pz_so d23_5 rfl)
theorem q23_5n {dA : Nat → ClassId} {d : Nat} {st : List Value} {f : pz_F} {Q : Option Value → pz_F → Prop} {v0 v2 v3 v4 : Value} : pz_R dA d 23 5 [v0, .null, v2, v3, v4] st f Q = pz_R dA d 23 6 [v0, .null, v2, v3, v4] (.null :: st) f Q := pz_go (pz_so d23_5 rfl)
theorem d23_6 : decode (pz_b 23) 6 = .ok (.getfield 140, 3) := by decide +kernel
theorem q23_6 {dA : Nat → ClassId} {d : Nat} {st : List Value} {f : pz_F} {Q : Option Value → pz_F → Prop} {v0 v1 v2 v3 v4 : Value} {a : Nat} : pz_R dA d 23 6 [v0, v1, v2, v3, v4] (.ref a :: st) f Q = pz_o (pz_gf f a 1 0) (fun v => pz_R dA d 23 9 [v0, v1, v2, v3, v4] (v :: st) f Q) := pz_gg d23_6 rfl
theorem d23_9 : decode (pz_b 23) 9 = .ok (.iconst 1, 1) := by decide +kernel
theorem q23_9 {dA : Nat → ClassId} {d : Nat} {st : List Value} {f : pz_F} {Q : Option Value → pz_F → Prop} {v0 v1 v2 v3 v4 : Value} : pz_R dA d 23 9 [v0, v1, v2, v3, v4] st f Q = pz_R dA d 23 10 [v0, v1, v2, v3, v4] (.int 1 :: st) f Q := pz_go (pz_so d23_9 rfl)
theorem d23_10 : decode (pz_b 23) 10 = .ok (.aload_n 1, 1) := by decide +kernel
theorem q23_10 {dA : Nat → ClassId} {d : Nat} {st : List Value} {f : pz_F} {Q : Option Value → pz_F → Prop} {v0 v2 v3 v4 : Value} {x : Nat} : pz_R dA d 23 10 [v0, .ref x, v2, v3, v4] st f Q = pz_R dA d 23 11 [v0, .ref x, v2, v3, v4] (.ref x :: st) f Q := pz_go (pz_so d23_10 rfl)
theorem q23_10n {dA : Nat → ClassId} {d : Nat} {st : List Value} {f : pz_F} {Q : Option Value → pz_F → Prop} {v0 v2 v3 v4 : Value} : pz_R dA d 23 10 [v0, .null, v2, v3, v4] st f Q = pz_R dA d 23 11 [v0, .null, v2, v3, v4] (.null :: st) f Q := pz_go (pz_so d23_10 rfl)
theorem d23_11 : decode (pz_b 23) 11 = .ok (.getfield 140, 3) := by decide +kernel
theorem q23_11 {dA : Nat → ClassId} {d : Nat} {st : List Value} {f : pz_F} {Q : Option Value → pz_F → Prop} {v0 v1 v2 v3 v4 : Value} {a : Nat} : pz_R dA d 23 11 [v0, v1, v2, v3, v4] (.ref a :: st) f Q = pz_o (pz_gf f a 1 0) (fun v => pz_R dA d 23 14 [v0, v1, v2, v3, v4] (v :: st) f Q) := pz_gg d23_11 rfl
theorem d23_14 : decode (pz_b 23) 14 = .ok (.isub, 1) := by decide +kernel
theorem q23_14 {dA : Nat → ClassId} {d : Nat} {st : List Value} {f : pz_F} {Q : Option Value → pz_F → Prop} {v0 v1 v2 v3 v4 : Value} {x y : Int32} : pz_R dA d 23 14 [v0, v1, v2, v3, v4] (.int y :: .int x :: st) f Q = pz_R dA d 23 15 [v0, v1, v2, v3, v4] (.int (x - y) :: st) f Q := pz_go (pz_so d23_14 rfl)
theorem d23_15 : decode (pz_b 23) 15 = .ok (.aload_n 0, 1) := by decide +kernel
theorem q23_15 {dA : Nat → ClassId} {d : Nat} {st : List Value} {f : pz_F} {Q : Option Value → pz_F → Prop} {v1 v2 v3 v4 : Value} {x : Nat} : pz_R dA d 23 15 [.ref x, v1, v2, v3, v4] st f Q = pz_R dA d 23 16 [.ref x, v1, v2, v3, v4] (.ref x :: st) f Q := pz_go (pz_so d23_15 rfl)
theorem d23_16 : decode (pz_b 23) 16 = .ok (.getfield 7, 3) := by decide +kernel
theorem q23_16 {dA : Nat → ClassId} {d : Nat} {st : List Value} {f : pz_F} {Q : Option Value → pz_F → Prop} {v0 v1 v2 v3 v4 : Value} {a : Nat} : pz_R dA d 23 16 [v0, v1, v2, v3, v4] (.ref a :: st) f Q = pz_o (pz_gf f a 0 0) (fun v => pz_R dA d 23 19 [v0, v1, v2, v3, v4] (v :: st) f Q) := pz_gg d23_16 rfl
theorem d23_19 : decode (pz_b 23) 19 = .ok (.invokevirtual 76, 3) := by decide +kernel
theorem q23_19 {dA : Nat → ClassId} {d : Nat} {st : List Value} {f : pz_F} {Q : Option Value → pz_F → Prop} {v0 v1 v2 v3 v4 : Value} {c0 : Int32} {c1 : Int32} {c2 : Int32} {c3 : Int32} {b : Nat} (hr : st.length ≤ 4) : pz_R dA (d + 1) 23 19 [v0, v1, v2, v3, v4] (.int c3 :: .int c2 :: .int c1 :: .int c0 :: .ref b :: st) f Q = pz_o (pz_gu f b 4) (fun _ => pz_C dA d 74 [.ref b, .int c0, .int c1, .int c2, .int c3] f (fun r f' => pz_R dA (d + 1) 23 22 [v0, v1, v2, v3, v4] (r.toList ++ st) f' Q)) := pz_gcv (As := [.int c0, .int c1, .int c2, .int c3]) d23_19 rfl rfl rfl hr
theorem d23_22 : decode (pz_b 23) 22 = .ok (.astore_n 3, 1) := by decide +kernel
theorem q23_22 {dA : Nat → ClassId} {d : Nat} {st : List Value} {f : pz_F} {Q : Option Value → pz_F → Prop} {v0 v1 v2 v3 v4 : Value} {x : Nat} : pz_R dA d 23 22 [v0, v1, v2, v3, v4] (.ref x :: st) f Q = pz_R dA d 23 23 [v0, v1, v2, .ref x, v4] st f Q := pz_go (pz_so d23_22 rfl)
theorem q23_22n {dA : Nat → ClassId} {d : Nat} {st : List Value} {f : pz_F} {Q : Option Value → pz_F → Prop} {v0 v1 v2 v3 v4 : Value} : pz_R dA d 23 22 [v0, v1, v2, v3, v4] (.null :: st) f Q = pz_R dA d 23 23 [v0, v1, v2, .null, v4] st f Q := pz_go (pz_so d23_22 rfl)
theorem d23_23 : decode (pz_b 23) 23 = .ok (.aload_n 3, 1) := by decide +kernel
theorem q23_23 {dA : Nat → ClassId} {d : Nat} {st : List Value} {f : pz_F} {Q : Option Value → pz_F → Prop} {v0 v1 v2 v4 : Value} {x : Nat} : pz_R dA d 23 23 [v0, v1, v2, .ref x, v4] st f Q = pz_R dA d 23 24 [v0, v1, v2, .ref x, v4] (.ref x :: st) f Q := pz_go (pz_so d23_23 rfl)
theorem q23_23n {dA : Nat → ClassId} {d : Nat} {st : List Value} {f : pz_F} {Q : Option Value → pz_F → Prop} {v0 v1 v2 v4 : Value} : pz_R dA d 23 23 [v0, v1, v2, .null, v4] st f Q = pz_R dA d 23 24 [v0, v1, v2, .null, v4] (.null :: st) f Q := pz_go (pz_so d23_23 rfl)
theorem d23_24 : decode (pz_b 23) 24 = .ok (.ifnull 80, 3) := by decide +kernel
theorem q23_24 {dA : Nat → ClassId} {d : Nat} {st : List Value} {f : pz_F} {Q : Option Value → pz_F → Prop} {v0 v1 v2 v3 v4 : Value} {x : Nat} : pz_R dA d 23 24 [v0, v1, v2, v3, v4] (.ref x :: st) f Q = pz_R dA d 23 27 [v0, v1, v2, v3, v4] st f Q := pz_go (pz_so d23_24 rfl)
theorem q23_24n {dA : Nat → ClassId} {d : Nat} {st : List Value} {f : pz_F} {Q : Option Value → pz_F → Prop} {v0 v1 v2 v3 v4 : Value} : pz_R dA d 23 24 [v0, v1, v2, v3, v4] (.null :: st) f Q = pz_R dA d 23 104 [v0, v1, v2, v3, v4] st f Q := pz_go (pz_so d23_24 rfl)
theorem d23_27 : decode (pz_b 23) 27 = .ok (.aload_n 1, 1) := by decide +kernel
theorem q23_27 {dA : Nat → ClassId} {d : Nat} {st : List Value} {f : pz_F} {Q : Option Value → pz_F → Prop} {v0 v2 v3 v4 : Value} {x : Nat} : pz_R dA d 23 27 [v0, .ref x, v2, v3, v4] st f Q = pz_R dA d 23 28 [v0, .ref x, v2, v3, v4] (.ref x :: st) f Q := pz_go (pz_so d23_27 rfl)
theorem q23_27n {dA : Nat → ClassId} {d : Nat} {st : List Value} {f : pz_F} {Q : Option Value → pz_F → Prop} {v0 v2 v3 v4 : Value} : pz_R dA d 23 27 [v0, .null, v2, v3, v4] st f Q = pz_R dA d 23 28 [v0, .null, v2, v3, v4] (.null :: st) f Q := pz_go (pz_so d23_27 rfl)
theorem d23_28 : decode (pz_b 23) 28 = .ok (.getfield 121, 3) := by decide +kernel
theorem q23_28 {dA : Nat → ClassId} {d : Nat} {st : List Value} {f : pz_F} {Q : Option Value → pz_F → Prop} {v0 v1 v2 v3 v4 : Value} {a : Nat} : pz_R dA d 23 28 [v0, v1, v2, v3, v4] (.ref a :: st) f Q = pz_o (pz_gf f a 1 1) (fun v => pz_R dA d 23 31 [v0, v1, v2, v3, v4] (v :: st) f Q) := pz_gg d23_28 rfl
theorem d23_31 : decode (pz_b 23) 31 = .ok (.iload_n 2, 1) := by decide +kernel
theorem q23_31 {dA : Nat → ClassId} {d : Nat} {st : List Value} {f : pz_F} {Q : Option Value → pz_F → Prop} {v0 v1 v3 v4 : Value} {x : Int32} : pz_R dA d 23 31 [v0, v1, .int x, v3, v4] st f Q = pz_R dA d 23 32 [v0, v1, .int x, v3, v4] (.int x :: st) f Q := pz_go (pz_so d23_31 rfl)
theorem d23_32 : decode (pz_b 23) 32 = .ok (.aaload, 1) := by decide +kernel
theorem q23_32 {dA : Nat → ClassId} {d : Nat} {st : List Value} {f : pz_F} {Q : Option Value → pz_F → Prop} {v0 v1 v2 v3 v4 : Value} {i : Int32} {a : Nat} : pz_R dA d 23 32 [v0, v1, v2, v3, v4] (.int i :: .ref a :: st) f Q = pz_o (pz_rl dA f a i) (fun v => pz_R dA d 23 33 [v0, v1, v2, v3, v4] (v :: st) f Q) := pz_grl d23_32
theorem d23_33 : decode (pz_b 23) 33 = .ok (.astore 4, 2) := by decide +kernel
theorem q23_33 {dA : Nat → ClassId} {d : Nat} {st : List Value} {f : pz_F} {Q : Option Value → pz_F → Prop} {v0 v1 v2 v3 v4 : Value} {x : Nat} : pz_R dA d 23 33 [v0, v1, v2, v3, v4] (.ref x :: st) f Q = pz_R dA d 23 35 [v0, v1, v2, v3, .ref x] st f Q := pz_go (pz_so d23_33 rfl)
theorem q23_33n {dA : Nat → ClassId} {d : Nat} {st : List Value} {f : pz_F} {Q : Option Value → pz_F → Prop} {v0 v1 v2 v3 v4 : Value} : pz_R dA d 23 33 [v0, v1, v2, v3, v4] (.null :: st) f Q = pz_R dA d 23 35 [v0, v1, v2, v3, .null] st f Q := pz_go (pz_so d23_33 rfl)
theorem d23_35 : decode (pz_b 23) 35 = .ok (.aload_n 3, 1) := by decide +kernel
theorem q23_35 {dA : Nat → ClassId} {d : Nat} {st : List Value} {f : pz_F} {Q : Option Value → pz_F → Prop} {v0 v1 v2 v4 : Value} {x : Nat} : pz_R dA d 23 35 [v0, v1, v2, .ref x, v4] st f Q = pz_R dA d 23 36 [v0, v1, v2, .ref x, v4] (.ref x :: st) f Q := pz_go (pz_so d23_35 rfl)
theorem q23_35n {dA : Nat → ClassId} {d : Nat} {st : List Value} {f : pz_F} {Q : Option Value → pz_F → Prop} {v0 v1 v2 v4 : Value} : pz_R dA d 23 35 [v0, v1, v2, .null, v4] st f Q = pz_R dA d 23 36 [v0, v1, v2, .null, v4] (.null :: st) f Q := pz_go (pz_so d23_35 rfl)
theorem d23_36 : decode (pz_b 23) 36 = .ok (.iload_n 2, 1) := by decide +kernel
theorem q23_36 {dA : Nat → ClassId} {d : Nat} {st : List Value} {f : pz_F} {Q : Option Value → pz_F → Prop} {v0 v1 v3 v4 : Value} {x : Int32} : pz_R dA d 23 36 [v0, v1, .int x, v3, v4] st f Q = pz_R dA d 23 37 [v0, v1, .int x, v3, v4] (.int x :: st) f Q := pz_go (pz_so d23_36 rfl)
theorem d23_37 : decode (pz_b 23) 37 = .ok (.putfield 80, 3) := by decide +kernel
theorem q23_37 {dA : Nat → ClassId} {d : Nat} {st : List Value} {f : pz_F} {Q : Option Value → pz_F → Prop} {v0 v1 v2 v3 v4 : Value} {x : Int32} {a : Nat} : pz_R dA d 23 37 [v0, v1, v2, v3, v4] (.int x :: .ref a :: st) f Q = pz_o (pz_pf f a 5 5 (.int x)) (fun f' => pz_R dA d 23 40 [v0, v1, v2, v3, v4] st f' Q) := pz_gp d23_37 rfl rfl rfl rfl
theorem d23_40 : decode (pz_b 23) 40 = .ok (.aload_n 3, 1) := by decide +kernel
theorem q23_40 {dA : Nat → ClassId} {d : Nat} {st : List Value} {f : pz_F} {Q : Option Value → pz_F → Prop} {v0 v1 v2 v4 : Value} {x : Nat} : pz_R dA d 23 40 [v0, v1, v2, .ref x, v4] st f Q = pz_R dA d 23 41 [v0, v1, v2, .ref x, v4] (.ref x :: st) f Q := pz_go (pz_so d23_40 rfl)
theorem q23_40n {dA : Nat → ClassId} {d : Nat} {st : List Value} {f : pz_F} {Q : Option Value → pz_F → Prop} {v0 v1 v2 v4 : Value} : pz_R dA d 23 40 [v0, v1, v2, .null, v4] st f Q = pz_R dA d 23 41 [v0, v1, v2, .null, v4] (.null :: st) f Q := pz_go (pz_so d23_40 rfl)
theorem d23_41 : decode (pz_b 23) 41 = .ok (.aload 4, 2) := by decide +kernel
theorem q23_41 {dA : Nat → ClassId} {d : Nat} {st : List Value} {f : pz_F} {Q : Option Value → pz_F → Prop} {v0 v1 v2 v3 : Value} {x : Nat} : pz_R dA d 23 41 [v0, v1, v2, v3, .ref x] st f Q = pz_R dA d 23 43 [v0, v1, v2, v3, .ref x] (.ref x :: st) f Q := pz_go (pz_so d23_41 rfl)
theorem q23_41n {dA : Nat → ClassId} {d : Nat} {st : List Value} {f : pz_F} {Q : Option Value → pz_F → Prop} {v0 v1 v2 v3 : Value} : pz_R dA d 23 41 [v0, v1, v2, v3, .null] st f Q = pz_R dA d 23 43 [v0, v1, v2, v3, .null] (.null :: st) f Q := pz_go (pz_so d23_41 rfl)
theorem d23_43 : decode (pz_b 23) 43 = .ok (.getfield 176, 3) := by decide +kernel
theorem q23_43 {dA : Nat → ClassId} {d : Nat} {st : List Value} {f : pz_F} {Q : Option Value → pz_F → Prop} {v0 v1 v2 v3 v4 : Value} {a : Nat} : pz_R dA d 23 43 [v0, v1, v2, v3, v4] (.ref a :: st) f Q = pz_o (pz_gf f a 2 0) (fun v => pz_R dA d 23 46 [v0, v1, v2, v3, v4] (v :: st) f Q) := pz_gg d23_43 rfl
theorem d23_46 : decode (pz_b 23) 46 = .ok (.putfield 179, 3) := by decide +kernel
theorem q23_46 {dA : Nat → ClassId} {d : Nat} {st : List Value} {f : pz_F} {Q : Option Value → pz_F → Prop} {v0 v1 v2 v3 v4 : Value} {x : Int32} {a : Nat} : pz_R dA d 23 46 [v0, v1, v2, v3, v4] (.int x :: .ref a :: st) f Q = pz_o (pz_pf f a 5 6 (.int x)) (fun f' => pz_R dA d 23 49 [v0, v1, v2, v3, v4] st f' Q) := pz_gp d23_46 rfl rfl rfl rfl
theorem d23_49 : decode (pz_b 23) 49 = .ok (.aload_n 3, 1) := by decide +kernel
theorem q23_49 {dA : Nat → ClassId} {d : Nat} {st : List Value} {f : pz_F} {Q : Option Value → pz_F → Prop} {v0 v1 v2 v4 : Value} {x : Nat} : pz_R dA d 23 49 [v0, v1, v2, .ref x, v4] st f Q = pz_R dA d 23 50 [v0, v1, v2, .ref x, v4] (.ref x :: st) f Q := pz_go (pz_so d23_49 rfl)
theorem q23_49n {dA : Nat → ClassId} {d : Nat} {st : List Value} {f : pz_F} {Q : Option Value → pz_F → Prop} {v0 v1 v2 v4 : Value} : pz_R dA d 23 49 [v0, v1, v2, .null, v4] st f Q = pz_R dA d 23 50 [v0, v1, v2, .null, v4] (.null :: st) f Q := pz_go (pz_so d23_49 rfl)
theorem d23_50 : decode (pz_b 23) 50 = .ok (.aload 4, 2) := by decide +kernel
theorem q23_50 {dA : Nat → ClassId} {d : Nat} {st : List Value} {f : pz_F} {Q : Option Value → pz_F → Prop} {v0 v1 v2 v3 : Value} {x : Nat} : pz_R dA d 23 50 [v0, v1, v2, v3, .ref x] st f Q = pz_R dA d 23 52 [v0, v1, v2, v3, .ref x] (.ref x :: st) f Q := pz_go (pz_so d23_50 rfl)
theorem q23_50n {dA : Nat → ClassId} {d : Nat} {st : List Value} {f : pz_F} {Q : Option Value → pz_F → Prop} {v0 v1 v2 v3 : Value} : pz_R dA d 23 50 [v0, v1, v2, v3, .null] st f Q = pz_R dA d 23 52 [v0, v1, v2, v3, .null] (.null :: st) f Q := pz_go (pz_so d23_50 rfl)
theorem d23_52 : decode (pz_b 23) 52 = .ok (.getfield 182, 3) := by decide +kernel
theorem q23_52 {dA : Nat → ClassId} {d : Nat} {st : List Value} {f : pz_F} {Q : Option Value → pz_F → Prop} {v0 v1 v2 v3 v4 : Value} {a : Nat} : pz_R dA d 23 52 [v0, v1, v2, v3, v4] (.ref a :: st) f Q = pz_o (pz_gf f a 2 1) (fun v => pz_R dA d 23 55 [v0, v1, v2, v3, v4] (v :: st) f Q) := pz_gg d23_52 rfl
theorem d23_55 : decode (pz_b 23) 55 = .ok (.putfield 185, 3) := by decide +kernel
theorem q23_55 {dA : Nat → ClassId} {d : Nat} {st : List Value} {f : pz_F} {Q : Option Value → pz_F → Prop} {v0 v1 v2 v3 v4 : Value} {x : Int32} {a : Nat} : pz_R dA d 23 55 [v0, v1, v2, v3, v4] (.int x :: .ref a :: st) f Q = pz_o (pz_pf f a 5 7 (.int x)) (fun f' => pz_R dA d 23 58 [v0, v1, v2, v3, v4] st f' Q) := pz_gp d23_55 rfl rfl rfl rfl
theorem d23_58 : decode (pz_b 23) 58 = .ok (.aload_n 3, 1) := by decide +kernel
theorem q23_58 {dA : Nat → ClassId} {d : Nat} {st : List Value} {f : pz_F} {Q : Option Value → pz_F → Prop} {v0 v1 v2 v4 : Value} {x : Nat} : pz_R dA d 23 58 [v0, v1, v2, .ref x, v4] st f Q = pz_R dA d 23 59 [v0, v1, v2, .ref x, v4] (.ref x :: st) f Q := pz_go (pz_so d23_58 rfl)
theorem q23_58n {dA : Nat → ClassId} {d : Nat} {st : List Value} {f : pz_F} {Q : Option Value → pz_F → Prop} {v0 v1 v2 v4 : Value} : pz_R dA d 23 58 [v0, v1, v2, .null, v4] st f Q = pz_R dA d 23 59 [v0, v1, v2, .null, v4] (.null :: st) f Q := pz_go (pz_so d23_58 rfl)
theorem d23_59 : decode (pz_b 23) 59 = .ok (.aload 4, 2) := by decide +kernel
theorem q23_59 {dA : Nat → ClassId} {d : Nat} {st : List Value} {f : pz_F} {Q : Option Value → pz_F → Prop} {v0 v1 v2 v3 : Value} {x : Nat} : pz_R dA d 23 59 [v0, v1, v2, v3, .ref x] st f Q = pz_R dA d 23 61 [v0, v1, v2, v3, .ref x] (.ref x :: st) f Q := pz_go (pz_so d23_59 rfl)
theorem q23_59n {dA : Nat → ClassId} {d : Nat} {st : List Value} {f : pz_F} {Q : Option Value → pz_F → Prop} {v0 v1 v2 v3 : Value} : pz_R dA d 23 59 [v0, v1, v2, v3, .null] st f Q = pz_R dA d 23 61 [v0, v1, v2, v3, .null] (.null :: st) f Q := pz_go (pz_so d23_59 rfl)
theorem d23_61 : decode (pz_b 23) 61 = .ok (.getfield 186, 3) := by decide +kernel
theorem q23_61 {dA : Nat → ClassId} {d : Nat} {st : List Value} {f : pz_F} {Q : Option Value → pz_F → Prop} {v0 v1 v2 v3 v4 : Value} {a : Nat} : pz_R dA d 23 61 [v0, v1, v2, v3, v4] (.ref a :: st) f Q = pz_o (pz_gf f a 2 2) (fun v => pz_R dA d 23 64 [v0, v1, v2, v3, v4] (v :: st) f Q) := pz_gg d23_61 rfl
theorem d23_64 : decode (pz_b 23) 64 = .ok (.putfield 189, 3) := by decide +kernel
theorem q23_64 {dA : Nat → ClassId} {d : Nat} {st : List Value} {f : pz_F} {Q : Option Value → pz_F → Prop} {v0 v1 v2 v3 v4 : Value} {x : Int32} {a : Nat} : pz_R dA d 23 64 [v0, v1, v2, v3, v4] (.int x :: .ref a :: st) f Q = pz_o (pz_pf f a 5 8 (.int x)) (fun f' => pz_R dA d 23 67 [v0, v1, v2, v3, v4] st f' Q) := pz_gp d23_64 rfl rfl rfl rfl
theorem d23_67 : decode (pz_b 23) 67 = .ok (.aload_n 3, 1) := by decide +kernel
theorem q23_67 {dA : Nat → ClassId} {d : Nat} {st : List Value} {f : pz_F} {Q : Option Value → pz_F → Prop} {v0 v1 v2 v4 : Value} {x : Nat} : pz_R dA d 23 67 [v0, v1, v2, .ref x, v4] st f Q = pz_R dA d 23 68 [v0, v1, v2, .ref x, v4] (.ref x :: st) f Q := pz_go (pz_so d23_67 rfl)
theorem q23_67n {dA : Nat → ClassId} {d : Nat} {st : List Value} {f : pz_F} {Q : Option Value → pz_F → Prop} {v0 v1 v2 v4 : Value} : pz_R dA d 23 67 [v0, v1, v2, .null, v4] st f Q = pz_R dA d 23 68 [v0, v1, v2, .null, v4] (.null :: st) f Q := pz_go (pz_so d23_67 rfl)
theorem d23_68 : decode (pz_b 23) 68 = .ok (.aload 4, 2) := by decide +kernel
theorem q23_68 {dA : Nat → ClassId} {d : Nat} {st : List Value} {f : pz_F} {Q : Option Value → pz_F → Prop} {v0 v1 v2 v3 : Value} {x : Nat} : pz_R dA d 23 68 [v0, v1, v2, v3, .ref x] st f Q = pz_R dA d 23 70 [v0, v1, v2, v3, .ref x] (.ref x :: st) f Q := pz_go (pz_so d23_68 rfl)
theorem q23_68n {dA : Nat → ClassId} {d : Nat} {st : List Value} {f : pz_F} {Q : Option Value → pz_F → Prop} {v0 v1 v2 v3 : Value} : pz_R dA d 23 68 [v0, v1, v2, v3, .null] st f Q = pz_R dA d 23 70 [v0, v1, v2, v3, .null] (.null :: st) f Q := pz_go (pz_so d23_68 rfl)
theorem d23_70 : decode (pz_b 23) 70 = .ok (.getfield 190, 3) := by decide +kernel
theorem q23_70 {dA : Nat → ClassId} {d : Nat} {st : List Value} {f : pz_F} {Q : Option Value → pz_F → Prop} {v0 v1 v2 v3 v4 : Value} {a : Nat} : pz_R dA d 23 70 [v0, v1, v2, v3, v4] (.ref a :: st) f Q = pz_o (pz_gf f a 2 5) (fun v => pz_R dA d 23 73 [v0, v1, v2, v3, v4] (v :: st) f Q) := pz_gg d23_70 rfl
theorem d23_73 : decode (pz_b 23) 73 = .ok (.putfield 193, 3) := by decide +kernel
theorem q23_73 {dA : Nat → ClassId} {d : Nat} {st : List Value} {f : pz_F} {Q : Option Value → pz_F → Prop} {v0 v1 v2 v3 v4 : Value} {x : Int32} {a : Nat} : pz_R dA d 23 73 [v0, v1, v2, v3, v4] (.int x :: .ref a :: st) f Q = pz_o (pz_pf f a 5 9 (.int x)) (fun f' => pz_R dA d 23 76 [v0, v1, v2, v3, v4] st f' Q) := pz_gp d23_73 rfl rfl rfl rfl
theorem d23_76 : decode (pz_b 23) 76 = .ok (.aload_n 3, 1) := by decide +kernel
theorem q23_76 {dA : Nat → ClassId} {d : Nat} {st : List Value} {f : pz_F} {Q : Option Value → pz_F → Prop} {v0 v1 v2 v4 : Value} {x : Nat} : pz_R dA d 23 76 [v0, v1, v2, .ref x, v4] st f Q = pz_R dA d 23 77 [v0, v1, v2, .ref x, v4] (.ref x :: st) f Q := pz_go (pz_so d23_76 rfl)
theorem q23_76n {dA : Nat → ClassId} {d : Nat} {st : List Value} {f : pz_F} {Q : Option Value → pz_F → Prop} {v0 v1 v2 v4 : Value} : pz_R dA d 23 76 [v0, v1, v2, .null, v4] st f Q = pz_R dA d 23 77 [v0, v1, v2, .null, v4] (.null :: st) f Q := pz_go (pz_so d23_76 rfl)
theorem d23_77 : decode (pz_b 23) 77 = .ok (.aload 4, 2) := by decide +kernel
theorem q23_77 {dA : Nat → ClassId} {d : Nat} {st : List Value} {f : pz_F} {Q : Option Value → pz_F → Prop} {v0 v1 v2 v3 : Value} {x : Nat} : pz_R dA d 23 77 [v0, v1, v2, v3, .ref x] st f Q = pz_R dA d 23 79 [v0, v1, v2, v3, .ref x] (.ref x :: st) f Q := pz_go (pz_so d23_77 rfl)
theorem q23_77n {dA : Nat → ClassId} {d : Nat} {st : List Value} {f : pz_F} {Q : Option Value → pz_F → Prop} {v0 v1 v2 v3 : Value} : pz_R dA d 23 77 [v0, v1, v2, v3, .null] st f Q = pz_R dA d 23 79 [v0, v1, v2, v3, .null] (.null :: st) f Q := pz_go (pz_so d23_77 rfl)
theorem d23_79 : decode (pz_b 23) 79 = .ok (.getfield 194, 3) := by decide +kernel
theorem q23_79 {dA : Nat → ClassId} {d : Nat} {st : List Value} {f : pz_F} {Q : Option Value → pz_F → Prop} {v0 v1 v2 v3 v4 : Value} {a : Nat} : pz_R dA d 23 79 [v0, v1, v2, v3, v4] (.ref a :: st) f Q = pz_o (pz_gf f a 2 6) (fun v => pz_R dA d 23 82 [v0, v1, v2, v3, v4] (v :: st) f Q) := pz_gg d23_79 rfl
theorem d23_82 : decode (pz_b 23) 82 = .ok (.putfield 197, 3) := by decide +kernel
theorem q23_82 {dA : Nat → ClassId} {d : Nat} {st : List Value} {f : pz_F} {Q : Option Value → pz_F → Prop} {v0 v1 v2 v3 v4 : Value} {x : Int32} {a : Nat} : pz_R dA d 23 82 [v0, v1, v2, v3, v4] (.int x :: .ref a :: st) f Q = pz_o (pz_pf f a 5 10 (.int x)) (fun f' => pz_R dA d 23 85 [v0, v1, v2, v3, v4] st f' Q) := pz_gp d23_82 rfl rfl rfl rfl
theorem d23_85 : decode (pz_b 23) 85 = .ok (.aload_n 3, 1) := by decide +kernel
theorem q23_85 {dA : Nat → ClassId} {d : Nat} {st : List Value} {f : pz_F} {Q : Option Value → pz_F → Prop} {v0 v1 v2 v4 : Value} {x : Nat} : pz_R dA d 23 85 [v0, v1, v2, .ref x, v4] st f Q = pz_R dA d 23 86 [v0, v1, v2, .ref x, v4] (.ref x :: st) f Q := pz_go (pz_so d23_85 rfl)
theorem q23_85n {dA : Nat → ClassId} {d : Nat} {st : List Value} {f : pz_F} {Q : Option Value → pz_F → Prop} {v0 v1 v2 v4 : Value} : pz_R dA d 23 85 [v0, v1, v2, .null, v4] st f Q = pz_R dA d 23 86 [v0, v1, v2, .null, v4] (.null :: st) f Q := pz_go (pz_so d23_85 rfl)
theorem d23_86 : decode (pz_b 23) 86 = .ok (.aload_n 0, 1) := by decide +kernel
theorem q23_86 {dA : Nat → ClassId} {d : Nat} {st : List Value} {f : pz_F} {Q : Option Value → pz_F → Prop} {v1 v2 v3 v4 : Value} {x : Nat} : pz_R dA d 23 86 [.ref x, v1, v2, v3, v4] st f Q = pz_R dA d 23 87 [.ref x, v1, v2, v3, v4] (.ref x :: st) f Q := pz_go (pz_so d23_86 rfl)
theorem d23_87 : decode (pz_b 23) 87 = .ok (.getfield 7, 3) := by decide +kernel
theorem q23_87 {dA : Nat → ClassId} {d : Nat} {st : List Value} {f : pz_F} {Q : Option Value → pz_F → Prop} {v0 v1 v2 v3 v4 : Value} {a : Nat} : pz_R dA d 23 87 [v0, v1, v2, v3, v4] (.ref a :: st) f Q = pz_o (pz_gf f a 0 0) (fun v => pz_R dA d 23 90 [v0, v1, v2, v3, v4] (v :: st) f Q) := pz_gg d23_87 rfl
theorem d23_90 : decode (pz_b 23) 90 = .ok (.bipush 20, 2) := by decide +kernel
theorem q23_90 {dA : Nat → ClassId} {d : Nat} {st : List Value} {f : pz_F} {Q : Option Value → pz_F → Prop} {v0 v1 v2 v3 v4 : Value} : pz_R dA d 23 90 [v0, v1, v2, v3, v4] st f Q = pz_R dA d 23 92 [v0, v1, v2, v3, v4] (.int 20 :: st) f Q := pz_go (pz_so d23_90 rfl)
theorem d23_92 : decode (pz_b 23) 92 = .ok (.iadd, 1) := by decide +kernel
theorem q23_92 {dA : Nat → ClassId} {d : Nat} {st : List Value} {f : pz_F} {Q : Option Value → pz_F → Prop} {v0 v1 v2 v3 v4 : Value} {x y : Int32} : pz_R dA d 23 92 [v0, v1, v2, v3, v4] (.int y :: .int x :: st) f Q = pz_R dA d 23 93 [v0, v1, v2, v3, v4] (.int (x + y) :: st) f Q := pz_go (pz_so d23_92 rfl)
theorem d23_93 : decode (pz_b 23) 93 = .ok (.putfield 198, 3) := by decide +kernel
theorem q23_93 {dA : Nat → ClassId} {d : Nat} {st : List Value} {f : pz_F} {Q : Option Value → pz_F → Prop} {v0 v1 v2 v3 v4 : Value} {x : Int32} {a : Nat} : pz_R dA d 23 93 [v0, v1, v2, v3, v4] (.int x :: .ref a :: st) f Q = pz_o (pz_pf f a 5 11 (.int x)) (fun f' => pz_R dA d 23 96 [v0, v1, v2, v3, v4] st f' Q) := pz_gp d23_93 rfl rfl rfl rfl
theorem d23_96 : decode (pz_b 23) 96 = .ok (.aload_n 3, 1) := by decide +kernel
theorem q23_96 {dA : Nat → ClassId} {d : Nat} {st : List Value} {f : pz_F} {Q : Option Value → pz_F → Prop} {v0 v1 v2 v4 : Value} {x : Nat} : pz_R dA d 23 96 [v0, v1, v2, .ref x, v4] st f Q = pz_R dA d 23 97 [v0, v1, v2, .ref x, v4] (.ref x :: st) f Q := pz_go (pz_so d23_96 rfl)
theorem q23_96n {dA : Nat → ClassId} {d : Nat} {st : List Value} {f : pz_F} {Q : Option Value → pz_F → Prop} {v0 v1 v2 v4 : Value} : pz_R dA d 23 96 [v0, v1, v2, .null, v4] st f Q = pz_R dA d 23 97 [v0, v1, v2, .null, v4] (.null :: st) f Q := pz_go (pz_so d23_96 rfl)
theorem d23_97 : decode (pz_b 23) 97 = .ok (.aload_n 1, 1) := by decide +kernel
theorem q23_97 {dA : Nat → ClassId} {d : Nat} {st : List Value} {f : pz_F} {Q : Option Value → pz_F → Prop} {v0 v2 v3 v4 : Value} {x : Nat} : pz_R dA d 23 97 [v0, .ref x, v2, v3, v4] st f Q = pz_R dA d 23 98 [v0, .ref x, v2, v3, v4] (.ref x :: st) f Q := pz_go (pz_so d23_97 rfl)
theorem q23_97n {dA : Nat → ClassId} {d : Nat} {st : List Value} {f : pz_F} {Q : Option Value → pz_F → Prop} {v0 v2 v3 v4 : Value} : pz_R dA d 23 97 [v0, .null, v2, v3, v4] st f Q = pz_R dA d 23 98 [v0, .null, v2, v3, v4] (.null :: st) f Q := pz_go (pz_so d23_97 rfl)
theorem d23_98 : decode (pz_b 23) 98 = .ok (.getfield 201, 3) := by decide +kernel
theorem q23_98 {dA : Nat → ClassId} {d : Nat} {st : List Value} {f : pz_F} {Q : Option Value → pz_F → Prop} {v0 v1 v2 v3 v4 : Value} {a : Nat} : pz_R dA d 23 98 [v0, v1, v2, v3, v4] (.ref a :: st) f Q = pz_o (pz_gf f a 1 5) (fun v => pz_R dA d 23 101 [v0, v1, v2, v3, v4] (v :: st) f Q) := pz_gg d23_98 rfl
theorem d23_101 : decode (pz_b 23) 101 = .ok (.putfield 204, 3) := by decide +kernel
theorem q23_101 {dA : Nat → ClassId} {d : Nat} {st : List Value} {f : pz_F} {Q : Option Value → pz_F → Prop} {v0 v1 v2 v3 v4 : Value} {x : Int32} {a : Nat} : pz_R dA d 23 101 [v0, v1, v2, v3, v4] (.int x :: .ref a :: st) f Q = pz_o (pz_pf f a 5 12 (.int x)) (fun f' => pz_R dA d 23 104 [v0, v1, v2, v3, v4] st f' Q) := pz_gp d23_101 rfl rfl rfl rfl
theorem d23_104 : decode (pz_b 23) 104 = .ok (.return_, 1) := by decide +kernel
theorem q23_104 {dA : Nat → ClassId} {d : Nat} {st : List Value} {f : pz_F} {Q : Option Value → pz_F → Prop} {v0 v1 v2 v3 v4 : Value} : pz_R dA d 23 104 [v0, v1, v2, v3, v4] [] f Q = Q none f := pz_gr (pz_so d23_104 rfl)
/-! P_sendDemand (LLeasePair$Server;)V -/
theorem e24 {dA : Nat → ClassId} {d : Nat} {f : pz_F} {Q : Option Value → pz_F → Prop} {a0 : Nat} {a1 : Nat} : pz_C dA d 24 [.ref a0, .ref a1] f Q = pz_R dA d 24 0 [.ref a0, .ref a1, .retAddr 0] [] f Q := rfl
theorem d24_0 : decode (pz_b 24) 0 = .ok (.aload_n 0, 1) := by decide +kernel
theorem q24_0 {dA : Nat → ClassId} {d : Nat} {st : List Value} {f : pz_F} {Q : Option Value → pz_F → Prop} {v1 v2 : Value} {x : Nat} : pz_R dA d 24 0 [.ref x, v1, v2] st f Q = pz_R dA d 24 1 [.ref x, v1, v2] (.ref x :: st) f Q := pz_go (pz_so d24_0 rfl)
theorem d24_1 : decode (pz_b 24) 1 = .ok (.getfield 36, 3) := by decide +kernel
theorem q24_1 {dA : Nat → ClassId} {d : Nat} {st : List Value} {f : pz_F} {Q : Option Value → pz_F → Prop} {v0 v1 v2 : Value} {a : Nat} : pz_R dA d 24 1 [v0, v1, v2] (.ref a :: st) f Q = pz_o (pz_gf f a 0 4) (fun v => pz_R dA d 24 4 [v0, v1, v2] (v :: st) f Q) := pz_gg d24_1 rfl
theorem d24_4 : decode (pz_b 24) 4 = .ok (.bipush 6, 2) := by decide +kernel
theorem q24_4 {dA : Nat → ClassId} {d : Nat} {st : List Value} {f : pz_F} {Q : Option Value → pz_F → Prop} {v0 v1 v2 : Value} : pz_R dA d 24 4 [v0, v1, v2] st f Q = pz_R dA d 24 6 [v0, v1, v2] (.int 6 :: st) f Q := pz_go (pz_so d24_4 rfl)
theorem d24_6 : decode (pz_b 24) 6 = .ok (.aload_n 1, 1) := by decide +kernel
theorem q24_6 {dA : Nat → ClassId} {d : Nat} {st : List Value} {f : pz_F} {Q : Option Value → pz_F → Prop} {v0 v2 : Value} {x : Nat} : pz_R dA d 24 6 [v0, .ref x, v2] st f Q = pz_R dA d 24 7 [v0, .ref x, v2] (.ref x :: st) f Q := pz_go (pz_so d24_6 rfl)
theorem q24_6n {dA : Nat → ClassId} {d : Nat} {st : List Value} {f : pz_F} {Q : Option Value → pz_F → Prop} {v0 v2 : Value} : pz_R dA d 24 6 [v0, .null, v2] st f Q = pz_R dA d 24 7 [v0, .null, v2] (.null :: st) f Q := pz_go (pz_so d24_6 rfl)
theorem d24_7 : decode (pz_b 24) 7 = .ok (.getfield 140, 3) := by decide +kernel
theorem q24_7 {dA : Nat → ClassId} {d : Nat} {st : List Value} {f : pz_F} {Q : Option Value → pz_F → Prop} {v0 v1 v2 : Value} {a : Nat} : pz_R dA d 24 7 [v0, v1, v2] (.ref a :: st) f Q = pz_o (pz_gf f a 1 0) (fun v => pz_R dA d 24 10 [v0, v1, v2] (v :: st) f Q) := pz_gg d24_7 rfl
theorem d24_10 : decode (pz_b 24) 10 = .ok (.iconst 1, 1) := by decide +kernel
theorem q24_10 {dA : Nat → ClassId} {d : Nat} {st : List Value} {f : pz_F} {Q : Option Value → pz_F → Prop} {v0 v1 v2 : Value} : pz_R dA d 24 10 [v0, v1, v2] st f Q = pz_R dA d 24 11 [v0, v1, v2] (.int 1 :: st) f Q := pz_go (pz_so d24_10 rfl)
theorem d24_11 : decode (pz_b 24) 11 = .ok (.aload_n 1, 1) := by decide +kernel
theorem q24_11 {dA : Nat → ClassId} {d : Nat} {st : List Value} {f : pz_F} {Q : Option Value → pz_F → Prop} {v0 v2 : Value} {x : Nat} : pz_R dA d 24 11 [v0, .ref x, v2] st f Q = pz_R dA d 24 12 [v0, .ref x, v2] (.ref x :: st) f Q := pz_go (pz_so d24_11 rfl)
theorem q24_11n {dA : Nat → ClassId} {d : Nat} {st : List Value} {f : pz_F} {Q : Option Value → pz_F → Prop} {v0 v2 : Value} : pz_R dA d 24 11 [v0, .null, v2] st f Q = pz_R dA d 24 12 [v0, .null, v2] (.null :: st) f Q := pz_go (pz_so d24_11 rfl)
theorem d24_12 : decode (pz_b 24) 12 = .ok (.getfield 140, 3) := by decide +kernel
theorem q24_12 {dA : Nat → ClassId} {d : Nat} {st : List Value} {f : pz_F} {Q : Option Value → pz_F → Prop} {v0 v1 v2 : Value} {a : Nat} : pz_R dA d 24 12 [v0, v1, v2] (.ref a :: st) f Q = pz_o (pz_gf f a 1 0) (fun v => pz_R dA d 24 15 [v0, v1, v2] (v :: st) f Q) := pz_gg d24_12 rfl
theorem d24_15 : decode (pz_b 24) 15 = .ok (.isub, 1) := by decide +kernel
theorem q24_15 {dA : Nat → ClassId} {d : Nat} {st : List Value} {f : pz_F} {Q : Option Value → pz_F → Prop} {v0 v1 v2 : Value} {x y : Int32} : pz_R dA d 24 15 [v0, v1, v2] (.int y :: .int x :: st) f Q = pz_R dA d 24 16 [v0, v1, v2] (.int (x - y) :: st) f Q := pz_go (pz_so d24_15 rfl)
theorem d24_16 : decode (pz_b 24) 16 = .ok (.aload_n 0, 1) := by decide +kernel
theorem q24_16 {dA : Nat → ClassId} {d : Nat} {st : List Value} {f : pz_F} {Q : Option Value → pz_F → Prop} {v1 v2 : Value} {x : Nat} : pz_R dA d 24 16 [.ref x, v1, v2] st f Q = pz_R dA d 24 17 [.ref x, v1, v2] (.ref x :: st) f Q := pz_go (pz_so d24_16 rfl)
theorem d24_17 : decode (pz_b 24) 17 = .ok (.getfield 7, 3) := by decide +kernel
theorem q24_17 {dA : Nat → ClassId} {d : Nat} {st : List Value} {f : pz_F} {Q : Option Value → pz_F → Prop} {v0 v1 v2 : Value} {a : Nat} : pz_R dA d 24 17 [v0, v1, v2] (.ref a :: st) f Q = pz_o (pz_gf f a 0 0) (fun v => pz_R dA d 24 20 [v0, v1, v2] (v :: st) f Q) := pz_gg d24_17 rfl
theorem d24_20 : decode (pz_b 24) 20 = .ok (.invokevirtual 76, 3) := by decide +kernel
theorem q24_20 {dA : Nat → ClassId} {d : Nat} {st : List Value} {f : pz_F} {Q : Option Value → pz_F → Prop} {v0 v1 v2 : Value} {c0 : Int32} {c1 : Int32} {c2 : Int32} {c3 : Int32} {b : Nat} (hr : st.length ≤ 4) : pz_R dA (d + 1) 24 20 [v0, v1, v2] (.int c3 :: .int c2 :: .int c1 :: .int c0 :: .ref b :: st) f Q = pz_o (pz_gu f b 4) (fun _ => pz_C dA d 74 [.ref b, .int c0, .int c1, .int c2, .int c3] f (fun r f' => pz_R dA (d + 1) 24 23 [v0, v1, v2] (r.toList ++ st) f' Q)) := pz_gcv (As := [.int c0, .int c1, .int c2, .int c3]) d24_20 rfl rfl rfl hr
theorem d24_23 : decode (pz_b 24) 23 = .ok (.astore_n 2, 1) := by decide +kernel
theorem q24_23 {dA : Nat → ClassId} {d : Nat} {st : List Value} {f : pz_F} {Q : Option Value → pz_F → Prop} {v0 v1 v2 : Value} {x : Nat} : pz_R dA d 24 23 [v0, v1, v2] (.ref x :: st) f Q = pz_R dA d 24 24 [v0, v1, .ref x] st f Q := pz_go (pz_so d24_23 rfl)
theorem q24_23n {dA : Nat → ClassId} {d : Nat} {st : List Value} {f : pz_F} {Q : Option Value → pz_F → Prop} {v0 v1 v2 : Value} : pz_R dA d 24 23 [v0, v1, v2] (.null :: st) f Q = pz_R dA d 24 24 [v0, v1, .null] st f Q := pz_go (pz_so d24_23 rfl)
theorem d24_24 : decode (pz_b 24) 24 = .ok (.aload_n 2, 1) := by decide +kernel
theorem q24_24 {dA : Nat → ClassId} {d : Nat} {st : List Value} {f : pz_F} {Q : Option Value → pz_F → Prop} {v0 v1 : Value} {x : Nat} : pz_R dA d 24 24 [v0, v1, .ref x] st f Q = pz_R dA d 24 25 [v0, v1, .ref x] (.ref x :: st) f Q := pz_go (pz_so d24_24 rfl)
theorem q24_24n {dA : Nat → ClassId} {d : Nat} {st : List Value} {f : pz_F} {Q : Option Value → pz_F → Prop} {v0 v1 : Value} : pz_R dA d 24 24 [v0, v1, .null] st f Q = pz_R dA d 24 25 [v0, v1, .null] (.null :: st) f Q := pz_go (pz_so d24_24 rfl)
theorem d24_25 : decode (pz_b 24) 25 = .ok (.ifnull 24, 3) := by decide +kernel
theorem q24_25 {dA : Nat → ClassId} {d : Nat} {st : List Value} {f : pz_F} {Q : Option Value → pz_F → Prop} {v0 v1 v2 : Value} {x : Nat} : pz_R dA d 24 25 [v0, v1, v2] (.ref x :: st) f Q = pz_R dA d 24 28 [v0, v1, v2] st f Q := pz_go (pz_so d24_25 rfl)
theorem q24_25n {dA : Nat → ClassId} {d : Nat} {st : List Value} {f : pz_F} {Q : Option Value → pz_F → Prop} {v0 v1 v2 : Value} : pz_R dA d 24 25 [v0, v1, v2] (.null :: st) f Q = pz_R dA d 24 49 [v0, v1, v2] st f Q := pz_go (pz_so d24_25 rfl)
theorem d24_28 : decode (pz_b 24) 28 = .ok (.aload_n 2, 1) := by decide +kernel
theorem q24_28 {dA : Nat → ClassId} {d : Nat} {st : List Value} {f : pz_F} {Q : Option Value → pz_F → Prop} {v0 v1 : Value} {x : Nat} : pz_R dA d 24 28 [v0, v1, .ref x] st f Q = pz_R dA d 24 29 [v0, v1, .ref x] (.ref x :: st) f Q := pz_go (pz_so d24_28 rfl)
theorem q24_28n {dA : Nat → ClassId} {d : Nat} {st : List Value} {f : pz_F} {Q : Option Value → pz_F → Prop} {v0 v1 : Value} : pz_R dA d 24 28 [v0, v1, .null] st f Q = pz_R dA d 24 29 [v0, v1, .null] (.null :: st) f Q := pz_go (pz_so d24_28 rfl)
theorem d24_29 : decode (pz_b 24) 29 = .ok (.bipush 63, 2) := by decide +kernel
theorem q24_29 {dA : Nat → ClassId} {d : Nat} {st : List Value} {f : pz_F} {Q : Option Value → pz_F → Prop} {v0 v1 v2 : Value} : pz_R dA d 24 29 [v0, v1, v2] st f Q = pz_R dA d 24 31 [v0, v1, v2] (.int 63 :: st) f Q := pz_go (pz_so d24_29 rfl)
theorem d24_31 : decode (pz_b 24) 31 = .ok (.aload_n 1, 1) := by decide +kernel
theorem q24_31 {dA : Nat → ClassId} {d : Nat} {st : List Value} {f : pz_F} {Q : Option Value → pz_F → Prop} {v0 v2 : Value} {x : Nat} : pz_R dA d 24 31 [v0, .ref x, v2] st f Q = pz_R dA d 24 32 [v0, .ref x, v2] (.ref x :: st) f Q := pz_go (pz_so d24_31 rfl)
theorem q24_31n {dA : Nat → ClassId} {d : Nat} {st : List Value} {f : pz_F} {Q : Option Value → pz_F → Prop} {v0 v2 : Value} : pz_R dA d 24 31 [v0, .null, v2] st f Q = pz_R dA d 24 32 [v0, .null, v2] (.null :: st) f Q := pz_go (pz_so d24_31 rfl)
theorem d24_32 : decode (pz_b 24) 32 = .ok (.getfield 163, 3) := by decide +kernel
theorem q24_32 {dA : Nat → ClassId} {d : Nat} {st : List Value} {f : pz_F} {Q : Option Value → pz_F → Prop} {v0 v1 v2 : Value} {a : Nat} : pz_R dA d 24 32 [v0, v1, v2] (.ref a :: st) f Q = pz_o (pz_gf f a 1 6) (fun v => pz_R dA d 24 35 [v0, v1, v2] (v :: st) f Q) := pz_gg d24_32 rfl
theorem d24_35 : decode (pz_b 24) 35 = .ok (.iconst (-1), 1) := by decide +kernel
theorem q24_35 {dA : Nat → ClassId} {d : Nat} {st : List Value} {f : pz_F} {Q : Option Value → pz_F → Prop} {v0 v1 v2 : Value} : pz_R dA d 24 35 [v0, v1, v2] st f Q = pz_R dA d 24 36 [v0, v1, v2] (.int (-1) :: st) f Q := pz_go (pz_so d24_35 rfl)
theorem d24_36 : decode (pz_b 24) 36 = .ok (.ixor, 1) := by decide +kernel
theorem q24_36 {dA : Nat → ClassId} {d : Nat} {st : List Value} {f : pz_F} {Q : Option Value → pz_F → Prop} {v0 v1 v2 : Value} {x y : Int32} : pz_R dA d 24 36 [v0, v1, v2] (.int y :: .int x :: st) f Q = pz_R dA d 24 37 [v0, v1, v2] (.int (x ^^^ y) :: st) f Q := pz_go (pz_so d24_36 rfl)
theorem d24_37 : decode (pz_b 24) 37 = .ok (.iand, 1) := by decide +kernel
theorem q24_37 {dA : Nat → ClassId} {d : Nat} {st : List Value} {f : pz_F} {Q : Option Value → pz_F → Prop} {v0 v1 v2 : Value} {x y : Int32} : pz_R dA d 24 37 [v0, v1, v2] (.int y :: .int x :: st) f Q = pz_R dA d 24 38 [v0, v1, v2] (.int (x &&& y) :: st) f Q := pz_go (pz_so d24_37 rfl)
theorem d24_38 : decode (pz_b 24) 38 = .ok (.putfield 207, 3) := by decide +kernel
theorem q24_38 {dA : Nat → ClassId} {d : Nat} {st : List Value} {f : pz_F} {Q : Option Value → pz_F → Prop} {v0 v1 v2 : Value} {x : Int32} {a : Nat} : pz_R dA d 24 38 [v0, v1, v2] (.int x :: .ref a :: st) f Q = pz_o (pz_pf f a 5 13 (.int x)) (fun f' => pz_R dA d 24 41 [v0, v1, v2] st f' Q) := pz_gp d24_38 rfl rfl rfl rfl
theorem d24_41 : decode (pz_b 24) 41 = .ok (.aload_n 2, 1) := by decide +kernel
theorem q24_41 {dA : Nat → ClassId} {d : Nat} {st : List Value} {f : pz_F} {Q : Option Value → pz_F → Prop} {v0 v1 : Value} {x : Nat} : pz_R dA d 24 41 [v0, v1, .ref x] st f Q = pz_R dA d 24 42 [v0, v1, .ref x] (.ref x :: st) f Q := pz_go (pz_so d24_41 rfl)
theorem q24_41n {dA : Nat → ClassId} {d : Nat} {st : List Value} {f : pz_F} {Q : Option Value → pz_F → Prop} {v0 v1 : Value} : pz_R dA d 24 41 [v0, v1, .null] st f Q = pz_R dA d 24 42 [v0, v1, .null] (.null :: st) f Q := pz_go (pz_so d24_41 rfl)
theorem d24_42 : decode (pz_b 24) 42 = .ok (.aload_n 1, 1) := by decide +kernel
theorem q24_42 {dA : Nat → ClassId} {d : Nat} {st : List Value} {f : pz_F} {Q : Option Value → pz_F → Prop} {v0 v2 : Value} {x : Nat} : pz_R dA d 24 42 [v0, .ref x, v2] st f Q = pz_R dA d 24 43 [v0, .ref x, v2] (.ref x :: st) f Q := pz_go (pz_so d24_42 rfl)
theorem q24_42n {dA : Nat → ClassId} {d : Nat} {st : List Value} {f : pz_F} {Q : Option Value → pz_F → Prop} {v0 v2 : Value} : pz_R dA d 24 42 [v0, .null, v2] st f Q = pz_R dA d 24 43 [v0, .null, v2] (.null :: st) f Q := pz_go (pz_so d24_42 rfl)
theorem d24_43 : decode (pz_b 24) 43 = .ok (.getfield 210, 3) := by decide +kernel
theorem q24_43 {dA : Nat → ClassId} {d : Nat} {st : List Value} {f : pz_F} {Q : Option Value → pz_F → Prop} {v0 v1 v2 : Value} {a : Nat} : pz_R dA d 24 43 [v0, v1, v2] (.ref a :: st) f Q = pz_o (pz_gf f a 1 4) (fun v => pz_R dA d 24 46 [v0, v1, v2] (v :: st) f Q) := pz_gg d24_43 rfl
theorem d24_46 : decode (pz_b 24) 46 = .ok (.putfield 204, 3) := by decide +kernel
theorem q24_46 {dA : Nat → ClassId} {d : Nat} {st : List Value} {f : pz_F} {Q : Option Value → pz_F → Prop} {v0 v1 v2 : Value} {x : Int32} {a : Nat} : pz_R dA d 24 46 [v0, v1, v2] (.int x :: .ref a :: st) f Q = pz_o (pz_pf f a 5 12 (.int x)) (fun f' => pz_R dA d 24 49 [v0, v1, v2] st f' Q) := pz_gp d24_46 rfl rfl rfl rfl
theorem d24_49 : decode (pz_b 24) 49 = .ok (.return_, 1) := by decide +kernel
theorem q24_49 {dA : Nat → ClassId} {d : Nat} {st : List Value} {f : pz_F} {Q : Option Value → pz_F → Prop} {v0 v1 v2 : Value} : pz_R dA d 24 49 [v0, v1, v2] [] f Q = Q none f := pz_gr (pz_so d24_49 rfl)
/-! P_sendWithTicket (IIII)V -/
theorem e25 {dA : Nat → ClassId} {d : Nat} {f : pz_F} {Q : Option Value → pz_F → Prop} {a0 : Nat} {a1 : Int32} {a2 : Int32} {a3 : Int32} {a4 : Int32} : pz_C dA d 25 [.ref a0, .int a1, .int a2, .int a3, .int a4] f Q = pz_R dA d 25 0 [.ref a0, .int a1, .int a2, .int a3, .int a4, .retAddr 0] [] f Q := rfl
theorem d25_0 : decode (pz_b 25) 0 = .ok (.aload_n 0, 1) := by decide +kernel
theorem q25_0 {dA : Nat → ClassId} {d : Nat} {st : List Value} {f : pz_F} {Q : Option Value → pz_F → Prop} {v1 v2 v3 v4 v5 : Value} {x : Nat} : pz_R dA d 25 0 [.ref x, v1, v2, v3, v4, v5] st f Q = pz_R dA d 25 1 [.ref x, v1, v2, v3, v4, v5] (.ref x :: st) f Q := pz_go (pz_so d25_0 rfl)
theorem d25_1 : decode (pz_b 25) 1 = .ok (.getfield 36, 3) := by decide +kernel
theorem q25_1 {dA : Nat → ClassId} {d : Nat} {st : List Value} {f : pz_F} {Q : Option Value → pz_F → Prop} {v0 v1 v2 v3 v4 v5 : Value} {a : Nat} : pz_R dA d 25 1 [v0, v1, v2, v3, v4, v5] (.ref a :: st) f Q = pz_o (pz_gf f a 0 4) (fun v => pz_R dA d 25 4 [v0, v1, v2, v3, v4, v5] (v :: st) f Q) := pz_gg d25_1 rfl
theorem d25_4 : decode (pz_b 25) 4 = .ok (.iload_n 1, 1) := by decide +kernel
theorem q25_4 {dA : Nat → ClassId} {d : Nat} {st : List Value} {f : pz_F} {Q : Option Value → pz_F → Prop} {v0 v2 v3 v4 v5 : Value} {x : Int32} : pz_R dA d 25 4 [v0, .int x, v2, v3, v4, v5] st f Q = pz_R dA d 25 5 [v0, .int x, v2, v3, v4, v5] (.int x :: st) f Q := pz_go (pz_so d25_4 rfl)
theorem d25_5 : decode (pz_b 25) 5 = .ok (.iload_n 2, 1) := by decide +kernel
theorem q25_5 {dA : Nat → ClassId} {d : Nat} {st : List Value} {f : pz_F} {Q : Option Value → pz_F → Prop} {v0 v1 v3 v4 v5 : Value} {x : Int32} : pz_R dA d 25 5 [v0, v1, .int x, v3, v4, v5] st f Q = pz_R dA d 25 6 [v0, v1, .int x, v3, v4, v5] (.int x :: st) f Q := pz_go (pz_so d25_5 rfl)
theorem d25_6 : decode (pz_b 25) 6 = .ok (.iload_n 3, 1) := by decide +kernel
theorem q25_6 {dA : Nat → ClassId} {d : Nat} {st : List Value} {f : pz_F} {Q : Option Value → pz_F → Prop} {v0 v1 v2 v4 v5 : Value} {x : Int32} : pz_R dA d 25 6 [v0, v1, v2, .int x, v4, v5] st f Q = pz_R dA d 25 7 [v0, v1, v2, .int x, v4, v5] (.int x :: st) f Q := pz_go (pz_so d25_6 rfl)
theorem d25_7 : decode (pz_b 25) 7 = .ok (.aload_n 0, 1) := by decide +kernel
theorem q25_7 {dA : Nat → ClassId} {d : Nat} {st : List Value} {f : pz_F} {Q : Option Value → pz_F → Prop} {v1 v2 v3 v4 v5 : Value} {x : Nat} : pz_R dA d 25 7 [.ref x, v1, v2, v3, v4, v5] st f Q = pz_R dA d 25 8 [.ref x, v1, v2, v3, v4, v5] (.ref x :: st) f Q := pz_go (pz_so d25_7 rfl)
theorem d25_8 : decode (pz_b 25) 8 = .ok (.getfield 7, 3) := by decide +kernel
theorem q25_8 {dA : Nat → ClassId} {d : Nat} {st : List Value} {f : pz_F} {Q : Option Value → pz_F → Prop} {v0 v1 v2 v3 v4 v5 : Value} {a : Nat} : pz_R dA d 25 8 [v0, v1, v2, v3, v4, v5] (.ref a :: st) f Q = pz_o (pz_gf f a 0 0) (fun v => pz_R dA d 25 11 [v0, v1, v2, v3, v4, v5] (v :: st) f Q) := pz_gg d25_8 rfl
theorem d25_11 : decode (pz_b 25) 11 = .ok (.invokevirtual 76, 3) := by decide +kernel
theorem q25_11 {dA : Nat → ClassId} {d : Nat} {st : List Value} {f : pz_F} {Q : Option Value → pz_F → Prop} {v0 v1 v2 v3 v4 v5 : Value} {c0 : Int32} {c1 : Int32} {c2 : Int32} {c3 : Int32} {b : Nat} (hr : st.length ≤ 4) : pz_R dA (d + 1) 25 11 [v0, v1, v2, v3, v4, v5] (.int c3 :: .int c2 :: .int c1 :: .int c0 :: .ref b :: st) f Q = pz_o (pz_gu f b 4) (fun _ => pz_C dA d 74 [.ref b, .int c0, .int c1, .int c2, .int c3] f (fun r f' => pz_R dA (d + 1) 25 14 [v0, v1, v2, v3, v4, v5] (r.toList ++ st) f' Q)) := pz_gcv (As := [.int c0, .int c1, .int c2, .int c3]) d25_11 rfl rfl rfl hr
theorem d25_14 : decode (pz_b 25) 14 = .ok (.astore 5, 2) := by decide +kernel
theorem q25_14 {dA : Nat → ClassId} {d : Nat} {st : List Value} {f : pz_F} {Q : Option Value → pz_F → Prop} {v0 v1 v2 v3 v4 v5 : Value} {x : Nat} : pz_R dA d 25 14 [v0, v1, v2, v3, v4, v5] (.ref x :: st) f Q = pz_R dA d 25 16 [v0, v1, v2, v3, v4, .ref x] st f Q := pz_go (pz_so d25_14 rfl)
theorem q25_14n {dA : Nat → ClassId} {d : Nat} {st : List Value} {f : pz_F} {Q : Option Value → pz_F → Prop} {v0 v1 v2 v3 v4 v5 : Value} : pz_R dA d 25 14 [v0, v1, v2, v3, v4, v5] (.null :: st) f Q = pz_R dA d 25 16 [v0, v1, v2, v3, v4, .null] st f Q := pz_go (pz_so d25_14 rfl)
theorem d25_16 : decode (pz_b 25) 16 = .ok (.aload 5, 2) := by decide +kernel
theorem q25_16 {dA : Nat → ClassId} {d : Nat} {st : List Value} {f : pz_F} {Q : Option Value → pz_F → Prop} {v0 v1 v2 v3 v4 : Value} {x : Nat} : pz_R dA d 25 16 [v0, v1, v2, v3, v4, .ref x] st f Q = pz_R dA d 25 18 [v0, v1, v2, v3, v4, .ref x] (.ref x :: st) f Q := pz_go (pz_so d25_16 rfl)
theorem q25_16n {dA : Nat → ClassId} {d : Nat} {st : List Value} {f : pz_F} {Q : Option Value → pz_F → Prop} {v0 v1 v2 v3 v4 : Value} : pz_R dA d 25 16 [v0, v1, v2, v3, v4, .null] st f Q = pz_R dA d 25 18 [v0, v1, v2, v3, v4, .null] (.null :: st) f Q := pz_go (pz_so d25_16 rfl)
theorem d25_18 : decode (pz_b 25) 18 = .ok (.ifnull 10, 3) := by decide +kernel
theorem q25_18 {dA : Nat → ClassId} {d : Nat} {st : List Value} {f : pz_F} {Q : Option Value → pz_F → Prop} {v0 v1 v2 v3 v4 v5 : Value} {x : Nat} : pz_R dA d 25 18 [v0, v1, v2, v3, v4, v5] (.ref x :: st) f Q = pz_R dA d 25 21 [v0, v1, v2, v3, v4, v5] st f Q := pz_go (pz_so d25_18 rfl)
theorem q25_18n {dA : Nat → ClassId} {d : Nat} {st : List Value} {f : pz_F} {Q : Option Value → pz_F → Prop} {v0 v1 v2 v3 v4 v5 : Value} : pz_R dA d 25 18 [v0, v1, v2, v3, v4, v5] (.null :: st) f Q = pz_R dA d 25 28 [v0, v1, v2, v3, v4, v5] st f Q := pz_go (pz_so d25_18 rfl)
theorem d25_21 : decode (pz_b 25) 21 = .ok (.aload 5, 2) := by decide +kernel
theorem q25_21 {dA : Nat → ClassId} {d : Nat} {st : List Value} {f : pz_F} {Q : Option Value → pz_F → Prop} {v0 v1 v2 v3 v4 : Value} {x : Nat} : pz_R dA d 25 21 [v0, v1, v2, v3, v4, .ref x] st f Q = pz_R dA d 25 23 [v0, v1, v2, v3, v4, .ref x] (.ref x :: st) f Q := pz_go (pz_so d25_21 rfl)
theorem q25_21n {dA : Nat → ClassId} {d : Nat} {st : List Value} {f : pz_F} {Q : Option Value → pz_F → Prop} {v0 v1 v2 v3 v4 : Value} : pz_R dA d 25 21 [v0, v1, v2, v3, v4, .null] st f Q = pz_R dA d 25 23 [v0, v1, v2, v3, v4, .null] (.null :: st) f Q := pz_go (pz_so d25_21 rfl)
theorem d25_23 : decode (pz_b 25) 23 = .ok (.iload 4, 2) := by decide +kernel
theorem q25_23 {dA : Nat → ClassId} {d : Nat} {st : List Value} {f : pz_F} {Q : Option Value → pz_F → Prop} {v0 v1 v2 v3 v5 : Value} {x : Int32} : pz_R dA d 25 23 [v0, v1, v2, v3, .int x, v5] st f Q = pz_R dA d 25 25 [v0, v1, v2, v3, .int x, v5] (.int x :: st) f Q := pz_go (pz_so d25_23 rfl)
theorem d25_25 : decode (pz_b 25) 25 = .ok (.putfield 211, 3) := by decide +kernel
theorem q25_25 {dA : Nat → ClassId} {d : Nat} {st : List Value} {f : pz_F} {Q : Option Value → pz_F → Prop} {v0 v1 v2 v3 v4 v5 : Value} {x : Int32} {a : Nat} : pz_R dA d 25 25 [v0, v1, v2, v3, v4, v5] (.int x :: .ref a :: st) f Q = pz_o (pz_pf f a 5 4 (.int x)) (fun f' => pz_R dA d 25 28 [v0, v1, v2, v3, v4, v5] st f' Q) := pz_gp d25_25 rfl rfl rfl rfl
theorem d25_28 : decode (pz_b 25) 28 = .ok (.return_, 1) := by decide +kernel
theorem q25_28 {dA : Nat → ClassId} {d : Nat} {st : List Value} {f : pz_F} {Q : Option Value → pz_F → Prop} {v0 v1 v2 v3 v4 v5 : Value} : pz_R dA d 25 28 [v0, v1, v2, v3, v4, v5] [] f Q = Q none f := pz_gr (pz_so d25_28 rfl)
/-! P_sendLease (LLeasePair$Message;II)V -/
theorem e26 {dA : Nat → ClassId} {d : Nat} {f : pz_F} {Q : Option Value → pz_F → Prop} {a0 : Nat} {a1 : Nat} {a2 : Int32} {a3 : Int32} : pz_C dA d 26 [.ref a0, .ref a1, .int a2, .int a3] f Q = pz_R dA d 26 0 [.ref a0, .ref a1, .int a2, .int a3, .retAddr 0] [] f Q := rfl
theorem d26_0 : decode (pz_b 26) 0 = .ok (.aload_n 0, 1) := by decide +kernel
theorem q26_0 {dA : Nat → ClassId} {d : Nat} {st : List Value} {f : pz_F} {Q : Option Value → pz_F → Prop} {v1 v2 v3 v4 : Value} {x : Nat} : pz_R dA d 26 0 [.ref x, v1, v2, v3, v4] st f Q = pz_R dA d 26 1 [.ref x, v1, v2, v3, v4] (.ref x :: st) f Q := pz_go (pz_so d26_0 rfl)
theorem d26_1 : decode (pz_b 26) 1 = .ok (.getfield 36, 3) := by decide +kernel
theorem q26_1 {dA : Nat → ClassId} {d : Nat} {st : List Value} {f : pz_F} {Q : Option Value → pz_F → Prop} {v0 v1 v2 v3 v4 : Value} {a : Nat} : pz_R dA d 26 1 [v0, v1, v2, v3, v4] (.ref a :: st) f Q = pz_o (pz_gf f a 0 4) (fun v => pz_R dA d 26 4 [v0, v1, v2, v3, v4] (v :: st) f Q) := pz_gg d26_1 rfl
theorem d26_4 : decode (pz_b 26) 4 = .ok (.iconst 1, 1) := by decide +kernel
theorem q26_4 {dA : Nat → ClassId} {d : Nat} {st : List Value} {f : pz_F} {Q : Option Value → pz_F → Prop} {v0 v1 v2 v3 v4 : Value} : pz_R dA d 26 4 [v0, v1, v2, v3, v4] st f Q = pz_R dA d 26 5 [v0, v1, v2, v3, v4] (.int 1 :: st) f Q := pz_go (pz_so d26_4 rfl)
theorem d26_5 : decode (pz_b 26) 5 = .ok (.aload_n 1, 1) := by decide +kernel
theorem q26_5 {dA : Nat → ClassId} {d : Nat} {st : List Value} {f : pz_F} {Q : Option Value → pz_F → Prop} {v0 v2 v3 v4 : Value} {x : Nat} : pz_R dA d 26 5 [v0, .ref x, v2, v3, v4] st f Q = pz_R dA d 26 6 [v0, .ref x, v2, v3, v4] (.ref x :: st) f Q := pz_go (pz_so d26_5 rfl)
theorem q26_5n {dA : Nat → ClassId} {d : Nat} {st : List Value} {f : pz_F} {Q : Option Value → pz_F → Prop} {v0 v2 v3 v4 : Value} : pz_R dA d 26 5 [v0, .null, v2, v3, v4] st f Q = pz_R dA d 26 6 [v0, .null, v2, v3, v4] (.null :: st) f Q := pz_go (pz_so d26_5 rfl)
theorem d26_6 : decode (pz_b 26) 6 = .ok (.getfield 212, 3) := by decide +kernel
theorem q26_6 {dA : Nat → ClassId} {d : Nat} {st : List Value} {f : pz_F} {Q : Option Value → pz_F → Prop} {v0 v1 v2 v3 v4 : Value} {a : Nat} : pz_R dA d 26 6 [v0, v1, v2, v3, v4] (.ref a :: st) f Q = pz_o (pz_gf f a 5 2) (fun v => pz_R dA d 26 9 [v0, v1, v2, v3, v4] (v :: st) f Q) := pz_gg d26_6 rfl
theorem d26_9 : decode (pz_b 26) 9 = .ok (.aload_n 1, 1) := by decide +kernel
theorem q26_9 {dA : Nat → ClassId} {d : Nat} {st : List Value} {f : pz_F} {Q : Option Value → pz_F → Prop} {v0 v2 v3 v4 : Value} {x : Nat} : pz_R dA d 26 9 [v0, .ref x, v2, v3, v4] st f Q = pz_R dA d 26 10 [v0, .ref x, v2, v3, v4] (.ref x :: st) f Q := pz_go (pz_so d26_9 rfl)
theorem q26_9n {dA : Nat → ClassId} {d : Nat} {st : List Value} {f : pz_F} {Q : Option Value → pz_F → Prop} {v0 v2 v3 v4 : Value} : pz_R dA d 26 9 [v0, .null, v2, v3, v4] st f Q = pz_R dA d 26 10 [v0, .null, v2, v3, v4] (.null :: st) f Q := pz_go (pz_so d26_9 rfl)
theorem d26_10 : decode (pz_b 26) 10 = .ok (.getfield 215, 3) := by decide +kernel
theorem q26_10 {dA : Nat → ClassId} {d : Nat} {st : List Value} {f : pz_F} {Q : Option Value → pz_F → Prop} {v0 v1 v2 v3 v4 : Value} {a : Nat} : pz_R dA d 26 10 [v0, v1, v2, v3, v4] (.ref a :: st) f Q = pz_o (pz_gf f a 5 1) (fun v => pz_R dA d 26 13 [v0, v1, v2, v3, v4] (v :: st) f Q) := pz_gg d26_10 rfl
theorem d26_13 : decode (pz_b 26) 13 = .ok (.aload_n 0, 1) := by decide +kernel
theorem q26_13 {dA : Nat → ClassId} {d : Nat} {st : List Value} {f : pz_F} {Q : Option Value → pz_F → Prop} {v1 v2 v3 v4 : Value} {x : Nat} : pz_R dA d 26 13 [.ref x, v1, v2, v3, v4] st f Q = pz_R dA d 26 14 [.ref x, v1, v2, v3, v4] (.ref x :: st) f Q := pz_go (pz_so d26_13 rfl)
theorem d26_14 : decode (pz_b 26) 14 = .ok (.getfield 7, 3) := by decide +kernel
theorem q26_14 {dA : Nat → ClassId} {d : Nat} {st : List Value} {f : pz_F} {Q : Option Value → pz_F → Prop} {v0 v1 v2 v3 v4 : Value} {a : Nat} : pz_R dA d 26 14 [v0, v1, v2, v3, v4] (.ref a :: st) f Q = pz_o (pz_gf f a 0 0) (fun v => pz_R dA d 26 17 [v0, v1, v2, v3, v4] (v :: st) f Q) := pz_gg d26_14 rfl
theorem d26_17 : decode (pz_b 26) 17 = .ok (.invokevirtual 76, 3) := by decide +kernel
theorem q26_17 {dA : Nat → ClassId} {d : Nat} {st : List Value} {f : pz_F} {Q : Option Value → pz_F → Prop} {v0 v1 v2 v3 v4 : Value} {c0 : Int32} {c1 : Int32} {c2 : Int32} {c3 : Int32} {b : Nat} (hr : st.length ≤ 4) : pz_R dA (d + 1) 26 17 [v0, v1, v2, v3, v4] (.int c3 :: .int c2 :: .int c1 :: .int c0 :: .ref b :: st) f Q = pz_o (pz_gu f b 4) (fun _ => pz_C dA d 74 [.ref b, .int c0, .int c1, .int c2, .int c3] f (fun r f' => pz_R dA (d + 1) 26 20 [v0, v1, v2, v3, v4] (r.toList ++ st) f' Q)) := pz_gcv (As := [.int c0, .int c1, .int c2, .int c3]) d26_17 rfl rfl rfl hr
theorem d26_20 : decode (pz_b 26) 20 = .ok (.astore 4, 2) := by decide +kernel
theorem q26_20 {dA : Nat → ClassId} {d : Nat} {st : List Value} {f : pz_F} {Q : Option Value → pz_F → Prop} {v0 v1 v2 v3 v4 : Value} {x : Nat} : pz_R dA d 26 20 [v0, v1, v2, v3, v4] (.ref x :: st) f Q = pz_R dA d 26 22 [v0, v1, v2, v3, .ref x] st f Q := pz_go (pz_so d26_20 rfl)
theorem q26_20n {dA : Nat → ClassId} {d : Nat} {st : List Value} {f : pz_F} {Q : Option Value → pz_F → Prop} {v0 v1 v2 v3 v4 : Value} : pz_R dA d 26 20 [v0, v1, v2, v3, v4] (.null :: st) f Q = pz_R dA d 26 22 [v0, v1, v2, v3, .null] st f Q := pz_go (pz_so d26_20 rfl)
theorem d26_22 : decode (pz_b 26) 22 = .ok (.aload 4, 2) := by decide +kernel
theorem q26_22 {dA : Nat → ClassId} {d : Nat} {st : List Value} {f : pz_F} {Q : Option Value → pz_F → Prop} {v0 v1 v2 v3 : Value} {x : Nat} : pz_R dA d 26 22 [v0, v1, v2, v3, .ref x] st f Q = pz_R dA d 26 24 [v0, v1, v2, v3, .ref x] (.ref x :: st) f Q := pz_go (pz_so d26_22 rfl)
theorem q26_22n {dA : Nat → ClassId} {d : Nat} {st : List Value} {f : pz_F} {Q : Option Value → pz_F → Prop} {v0 v1 v2 v3 : Value} : pz_R dA d 26 22 [v0, v1, v2, v3, .null] st f Q = pz_R dA d 26 24 [v0, v1, v2, v3, .null] (.null :: st) f Q := pz_go (pz_so d26_22 rfl)
theorem d26_24 : decode (pz_b 26) 24 = .ok (.ifnull 24, 3) := by decide +kernel
theorem q26_24 {dA : Nat → ClassId} {d : Nat} {st : List Value} {f : pz_F} {Q : Option Value → pz_F → Prop} {v0 v1 v2 v3 v4 : Value} {x : Nat} : pz_R dA d 26 24 [v0, v1, v2, v3, v4] (.ref x :: st) f Q = pz_R dA d 26 27 [v0, v1, v2, v3, v4] st f Q := pz_go (pz_so d26_24 rfl)
theorem q26_24n {dA : Nat → ClassId} {d : Nat} {st : List Value} {f : pz_F} {Q : Option Value → pz_F → Prop} {v0 v1 v2 v3 v4 : Value} : pz_R dA d 26 24 [v0, v1, v2, v3, v4] (.null :: st) f Q = pz_R dA d 26 48 [v0, v1, v2, v3, v4] st f Q := pz_go (pz_so d26_24 rfl)
theorem d26_27 : decode (pz_b 26) 27 = .ok (.aload 4, 2) := by decide +kernel
theorem q26_27 {dA : Nat → ClassId} {d : Nat} {st : List Value} {f : pz_F} {Q : Option Value → pz_F → Prop} {v0 v1 v2 v3 : Value} {x : Nat} : pz_R dA d 26 27 [v0, v1, v2, v3, .ref x] st f Q = pz_R dA d 26 29 [v0, v1, v2, v3, .ref x] (.ref x :: st) f Q := pz_go (pz_so d26_27 rfl)
theorem q26_27n {dA : Nat → ClassId} {d : Nat} {st : List Value} {f : pz_F} {Q : Option Value → pz_F → Prop} {v0 v1 v2 v3 : Value} : pz_R dA d 26 27 [v0, v1, v2, v3, .null] st f Q = pz_R dA d 26 29 [v0, v1, v2, v3, .null] (.null :: st) f Q := pz_go (pz_so d26_27 rfl)
theorem d26_29 : decode (pz_b 26) 29 = .ok (.aload_n 1, 1) := by decide +kernel
theorem q26_29 {dA : Nat → ClassId} {d : Nat} {st : List Value} {f : pz_F} {Q : Option Value → pz_F → Prop} {v0 v2 v3 v4 : Value} {x : Nat} : pz_R dA d 26 29 [v0, .ref x, v2, v3, v4] st f Q = pz_R dA d 26 30 [v0, .ref x, v2, v3, v4] (.ref x :: st) f Q := pz_go (pz_so d26_29 rfl)
theorem q26_29n {dA : Nat → ClassId} {d : Nat} {st : List Value} {f : pz_F} {Q : Option Value → pz_F → Prop} {v0 v2 v3 v4 : Value} : pz_R dA d 26 29 [v0, .null, v2, v3, v4] st f Q = pz_R dA d 26 30 [v0, .null, v2, v3, v4] (.null :: st) f Q := pz_go (pz_so d26_29 rfl)
theorem d26_30 : decode (pz_b 26) 30 = .ok (.getfield 211, 3) := by decide +kernel
theorem q26_30 {dA : Nat → ClassId} {d : Nat} {st : List Value} {f : pz_F} {Q : Option Value → pz_F → Prop} {v0 v1 v2 v3 v4 : Value} {a : Nat} : pz_R dA d 26 30 [v0, v1, v2, v3, v4] (.ref a :: st) f Q = pz_o (pz_gf f a 5 4) (fun v => pz_R dA d 26 33 [v0, v1, v2, v3, v4] (v :: st) f Q) := pz_gg d26_30 rfl
theorem d26_33 : decode (pz_b 26) 33 = .ok (.putfield 211, 3) := by decide +kernel
theorem q26_33 {dA : Nat → ClassId} {d : Nat} {st : List Value} {f : pz_F} {Q : Option Value → pz_F → Prop} {v0 v1 v2 v3 v4 : Value} {x : Int32} {a : Nat} : pz_R dA d 26 33 [v0, v1, v2, v3, v4] (.int x :: .ref a :: st) f Q = pz_o (pz_pf f a 5 4 (.int x)) (fun f' => pz_R dA d 26 36 [v0, v1, v2, v3, v4] st f' Q) := pz_gp d26_33 rfl rfl rfl rfl
theorem d26_36 : decode (pz_b 26) 36 = .ok (.aload 4, 2) := by decide +kernel
theorem q26_36 {dA : Nat → ClassId} {d : Nat} {st : List Value} {f : pz_F} {Q : Option Value → pz_F → Prop} {v0 v1 v2 v3 : Value} {x : Nat} : pz_R dA d 26 36 [v0, v1, v2, v3, .ref x] st f Q = pz_R dA d 26 38 [v0, v1, v2, v3, .ref x] (.ref x :: st) f Q := pz_go (pz_so d26_36 rfl)
theorem q26_36n {dA : Nat → ClassId} {d : Nat} {st : List Value} {f : pz_F} {Q : Option Value → pz_F → Prop} {v0 v1 v2 v3 : Value} : pz_R dA d 26 36 [v0, v1, v2, v3, .null] st f Q = pz_R dA d 26 38 [v0, v1, v2, v3, .null] (.null :: st) f Q := pz_go (pz_so d26_36 rfl)
theorem d26_38 : decode (pz_b 26) 38 = .ok (.iload_n 2, 1) := by decide +kernel
theorem q26_38 {dA : Nat → ClassId} {d : Nat} {st : List Value} {f : pz_F} {Q : Option Value → pz_F → Prop} {v0 v1 v3 v4 : Value} {x : Int32} : pz_R dA d 26 38 [v0, v1, .int x, v3, v4] st f Q = pz_R dA d 26 39 [v0, v1, .int x, v3, v4] (.int x :: st) f Q := pz_go (pz_so d26_38 rfl)
theorem d26_39 : decode (pz_b 26) 39 = .ok (.putfield 80, 3) := by decide +kernel
theorem q26_39 {dA : Nat → ClassId} {d : Nat} {st : List Value} {f : pz_F} {Q : Option Value → pz_F → Prop} {v0 v1 v2 v3 v4 : Value} {x : Int32} {a : Nat} : pz_R dA d 26 39 [v0, v1, v2, v3, v4] (.int x :: .ref a :: st) f Q = pz_o (pz_pf f a 5 5 (.int x)) (fun f' => pz_R dA d 26 42 [v0, v1, v2, v3, v4] st f' Q) := pz_gp d26_39 rfl rfl rfl rfl
theorem d26_42 : decode (pz_b 26) 42 = .ok (.aload 4, 2) := by decide +kernel
theorem q26_42 {dA : Nat → ClassId} {d : Nat} {st : List Value} {f : pz_F} {Q : Option Value → pz_F → Prop} {v0 v1 v2 v3 : Value} {x : Nat} : pz_R dA d 26 42 [v0, v1, v2, v3, .ref x] st f Q = pz_R dA d 26 44 [v0, v1, v2, v3, .ref x] (.ref x :: st) f Q := pz_go (pz_so d26_42 rfl)
theorem q26_42n {dA : Nat → ClassId} {d : Nat} {st : List Value} {f : pz_F} {Q : Option Value → pz_F → Prop} {v0 v1 v2 v3 : Value} : pz_R dA d 26 42 [v0, v1, v2, v3, .null] st f Q = pz_R dA d 26 44 [v0, v1, v2, v3, .null] (.null :: st) f Q := pz_go (pz_so d26_42 rfl)
theorem d26_44 : decode (pz_b 26) 44 = .ok (.iload_n 3, 1) := by decide +kernel
theorem q26_44 {dA : Nat → ClassId} {d : Nat} {st : List Value} {f : pz_F} {Q : Option Value → pz_F → Prop} {v0 v1 v2 v4 : Value} {x : Int32} : pz_R dA d 26 44 [v0, v1, v2, .int x, v4] st f Q = pz_R dA d 26 45 [v0, v1, v2, .int x, v4] (.int x :: st) f Q := pz_go (pz_so d26_44 rfl)
theorem d26_45 : decode (pz_b 26) 45 = .ok (.putfield 189, 3) := by decide +kernel
theorem q26_45 {dA : Nat → ClassId} {d : Nat} {st : List Value} {f : pz_F} {Q : Option Value → pz_F → Prop} {v0 v1 v2 v3 v4 : Value} {x : Int32} {a : Nat} : pz_R dA d 26 45 [v0, v1, v2, v3, v4] (.int x :: .ref a :: st) f Q = pz_o (pz_pf f a 5 8 (.int x)) (fun f' => pz_R dA d 26 48 [v0, v1, v2, v3, v4] st f' Q) := pz_gp d26_45 rfl rfl rfl rfl
theorem d26_48 : decode (pz_b 26) 48 = .ok (.return_, 1) := by decide +kernel
theorem q26_48 {dA : Nat → ClassId} {d : Nat} {st : List Value} {f : pz_F} {Q : Option Value → pz_F → Prop} {v0 v1 v2 v3 v4 : Value} : pz_R dA d 26 48 [v0, v1, v2, v3, v4] [] f Q = Q none f := pz_gr (pz_so d26_48 rfl)
/-! P_acknowledge (LLeasePair$Message;)V -/
theorem e27 {dA : Nat → ClassId} {d : Nat} {f : pz_F} {Q : Option Value → pz_F → Prop} {a0 : Nat} {a1 : Nat} : pz_C dA d 27 [.ref a0, .ref a1] f Q = pz_R dA d 27 0 [.ref a0, .ref a1, .retAddr 0] [] f Q := rfl
theorem d27_0 : decode (pz_b 27) 0 = .ok (.aload_n 0, 1) := by decide +kernel
theorem q27_0 {dA : Nat → ClassId} {d : Nat} {st : List Value} {f : pz_F} {Q : Option Value → pz_F → Prop} {v1 v2 : Value} {x : Nat} : pz_R dA d 27 0 [.ref x, v1, v2] st f Q = pz_R dA d 27 1 [.ref x, v1, v2] (.ref x :: st) f Q := pz_go (pz_so d27_0 rfl)
theorem d27_1 : decode (pz_b 27) 1 = .ok (.getfield 36, 3) := by decide +kernel
theorem q27_1 {dA : Nat → ClassId} {d : Nat} {st : List Value} {f : pz_F} {Q : Option Value → pz_F → Prop} {v0 v1 v2 : Value} {a : Nat} : pz_R dA d 27 1 [v0, v1, v2] (.ref a :: st) f Q = pz_o (pz_gf f a 0 4) (fun v => pz_R dA d 27 4 [v0, v1, v2] (v :: st) f Q) := pz_gg d27_1 rfl
theorem d27_4 : decode (pz_b 27) 4 = .ok (.iconst 5, 1) := by decide +kernel
theorem q27_4 {dA : Nat → ClassId} {d : Nat} {st : List Value} {f : pz_F} {Q : Option Value → pz_F → Prop} {v0 v1 v2 : Value} : pz_R dA d 27 4 [v0, v1, v2] st f Q = pz_R dA d 27 5 [v0, v1, v2] (.int 5 :: st) f Q := pz_go (pz_so d27_4 rfl)
theorem d27_5 : decode (pz_b 27) 5 = .ok (.aload_n 1, 1) := by decide +kernel
theorem q27_5 {dA : Nat → ClassId} {d : Nat} {st : List Value} {f : pz_F} {Q : Option Value → pz_F → Prop} {v0 v2 : Value} {x : Nat} : pz_R dA d 27 5 [v0, .ref x, v2] st f Q = pz_R dA d 27 6 [v0, .ref x, v2] (.ref x :: st) f Q := pz_go (pz_so d27_5 rfl)
theorem q27_5n {dA : Nat → ClassId} {d : Nat} {st : List Value} {f : pz_F} {Q : Option Value → pz_F → Prop} {v0 v2 : Value} : pz_R dA d 27 5 [v0, .null, v2] st f Q = pz_R dA d 27 6 [v0, .null, v2] (.null :: st) f Q := pz_go (pz_so d27_5 rfl)
theorem d27_6 : decode (pz_b 27) 6 = .ok (.getfield 212, 3) := by decide +kernel
theorem q27_6 {dA : Nat → ClassId} {d : Nat} {st : List Value} {f : pz_F} {Q : Option Value → pz_F → Prop} {v0 v1 v2 : Value} {a : Nat} : pz_R dA d 27 6 [v0, v1, v2] (.ref a :: st) f Q = pz_o (pz_gf f a 5 2) (fun v => pz_R dA d 27 9 [v0, v1, v2] (v :: st) f Q) := pz_gg d27_6 rfl
theorem d27_9 : decode (pz_b 27) 9 = .ok (.aload_n 1, 1) := by decide +kernel
theorem q27_9 {dA : Nat → ClassId} {d : Nat} {st : List Value} {f : pz_F} {Q : Option Value → pz_F → Prop} {v0 v2 : Value} {x : Nat} : pz_R dA d 27 9 [v0, .ref x, v2] st f Q = pz_R dA d 27 10 [v0, .ref x, v2] (.ref x :: st) f Q := pz_go (pz_so d27_9 rfl)
theorem q27_9n {dA : Nat → ClassId} {d : Nat} {st : List Value} {f : pz_F} {Q : Option Value → pz_F → Prop} {v0 v2 : Value} : pz_R dA d 27 9 [v0, .null, v2] st f Q = pz_R dA d 27 10 [v0, .null, v2] (.null :: st) f Q := pz_go (pz_so d27_9 rfl)
theorem d27_10 : decode (pz_b 27) 10 = .ok (.getfield 215, 3) := by decide +kernel
theorem q27_10 {dA : Nat → ClassId} {d : Nat} {st : List Value} {f : pz_F} {Q : Option Value → pz_F → Prop} {v0 v1 v2 : Value} {a : Nat} : pz_R dA d 27 10 [v0, v1, v2] (.ref a :: st) f Q = pz_o (pz_gf f a 5 1) (fun v => pz_R dA d 27 13 [v0, v1, v2] (v :: st) f Q) := pz_gg d27_10 rfl
theorem d27_13 : decode (pz_b 27) 13 = .ok (.aload_n 0, 1) := by decide +kernel
theorem q27_13 {dA : Nat → ClassId} {d : Nat} {st : List Value} {f : pz_F} {Q : Option Value → pz_F → Prop} {v1 v2 : Value} {x : Nat} : pz_R dA d 27 13 [.ref x, v1, v2] st f Q = pz_R dA d 27 14 [.ref x, v1, v2] (.ref x :: st) f Q := pz_go (pz_so d27_13 rfl)
theorem d27_14 : decode (pz_b 27) 14 = .ok (.getfield 7, 3) := by decide +kernel
theorem q27_14 {dA : Nat → ClassId} {d : Nat} {st : List Value} {f : pz_F} {Q : Option Value → pz_F → Prop} {v0 v1 v2 : Value} {a : Nat} : pz_R dA d 27 14 [v0, v1, v2] (.ref a :: st) f Q = pz_o (pz_gf f a 0 0) (fun v => pz_R dA d 27 17 [v0, v1, v2] (v :: st) f Q) := pz_gg d27_14 rfl
theorem d27_17 : decode (pz_b 27) 17 = .ok (.invokevirtual 76, 3) := by decide +kernel
theorem q27_17 {dA : Nat → ClassId} {d : Nat} {st : List Value} {f : pz_F} {Q : Option Value → pz_F → Prop} {v0 v1 v2 : Value} {c0 : Int32} {c1 : Int32} {c2 : Int32} {c3 : Int32} {b : Nat} (hr : st.length ≤ 4) : pz_R dA (d + 1) 27 17 [v0, v1, v2] (.int c3 :: .int c2 :: .int c1 :: .int c0 :: .ref b :: st) f Q = pz_o (pz_gu f b 4) (fun _ => pz_C dA d 74 [.ref b, .int c0, .int c1, .int c2, .int c3] f (fun r f' => pz_R dA (d + 1) 27 20 [v0, v1, v2] (r.toList ++ st) f' Q)) := pz_gcv (As := [.int c0, .int c1, .int c2, .int c3]) d27_17 rfl rfl rfl hr
theorem d27_20 : decode (pz_b 27) 20 = .ok (.astore_n 2, 1) := by decide +kernel
theorem q27_20 {dA : Nat → ClassId} {d : Nat} {st : List Value} {f : pz_F} {Q : Option Value → pz_F → Prop} {v0 v1 v2 : Value} {x : Nat} : pz_R dA d 27 20 [v0, v1, v2] (.ref x :: st) f Q = pz_R dA d 27 21 [v0, v1, .ref x] st f Q := pz_go (pz_so d27_20 rfl)
theorem q27_20n {dA : Nat → ClassId} {d : Nat} {st : List Value} {f : pz_F} {Q : Option Value → pz_F → Prop} {v0 v1 v2 : Value} : pz_R dA d 27 20 [v0, v1, v2] (.null :: st) f Q = pz_R dA d 27 21 [v0, v1, .null] st f Q := pz_go (pz_so d27_20 rfl)
theorem d27_21 : decode (pz_b 27) 21 = .ok (.aload_n 2, 1) := by decide +kernel
theorem q27_21 {dA : Nat → ClassId} {d : Nat} {st : List Value} {f : pz_F} {Q : Option Value → pz_F → Prop} {v0 v1 : Value} {x : Nat} : pz_R dA d 27 21 [v0, v1, .ref x] st f Q = pz_R dA d 27 22 [v0, v1, .ref x] (.ref x :: st) f Q := pz_go (pz_so d27_21 rfl)
theorem q27_21n {dA : Nat → ClassId} {d : Nat} {st : List Value} {f : pz_F} {Q : Option Value → pz_F → Prop} {v0 v1 : Value} : pz_R dA d 27 21 [v0, v1, .null] st f Q = pz_R dA d 27 22 [v0, v1, .null] (.null :: st) f Q := pz_go (pz_so d27_21 rfl)
theorem d27_22 : decode (pz_b 27) 22 = .ok (.ifnull 35, 3) := by decide +kernel
theorem q27_22 {dA : Nat → ClassId} {d : Nat} {st : List Value} {f : pz_F} {Q : Option Value → pz_F → Prop} {v0 v1 v2 : Value} {x : Nat} : pz_R dA d 27 22 [v0, v1, v2] (.ref x :: st) f Q = pz_R dA d 27 25 [v0, v1, v2] st f Q := pz_go (pz_so d27_22 rfl)
theorem q27_22n {dA : Nat → ClassId} {d : Nat} {st : List Value} {f : pz_F} {Q : Option Value → pz_F → Prop} {v0 v1 v2 : Value} : pz_R dA d 27 22 [v0, v1, v2] (.null :: st) f Q = pz_R dA d 27 57 [v0, v1, v2] st f Q := pz_go (pz_so d27_22 rfl)
theorem d27_25 : decode (pz_b 27) 25 = .ok (.aload_n 2, 1) := by decide +kernel
theorem q27_25 {dA : Nat → ClassId} {d : Nat} {st : List Value} {f : pz_F} {Q : Option Value → pz_F → Prop} {v0 v1 : Value} {x : Nat} : pz_R dA d 27 25 [v0, v1, .ref x] st f Q = pz_R dA d 27 26 [v0, v1, .ref x] (.ref x :: st) f Q := pz_go (pz_so d27_25 rfl)
theorem q27_25n {dA : Nat → ClassId} {d : Nat} {st : List Value} {f : pz_F} {Q : Option Value → pz_F → Prop} {v0 v1 : Value} : pz_R dA d 27 25 [v0, v1, .null] st f Q = pz_R dA d 27 26 [v0, v1, .null] (.null :: st) f Q := pz_go (pz_so d27_25 rfl)
theorem d27_26 : decode (pz_b 27) 26 = .ok (.aload_n 1, 1) := by decide +kernel
theorem q27_26 {dA : Nat → ClassId} {d : Nat} {st : List Value} {f : pz_F} {Q : Option Value → pz_F → Prop} {v0 v2 : Value} {x : Nat} : pz_R dA d 27 26 [v0, .ref x, v2] st f Q = pz_R dA d 27 27 [v0, .ref x, v2] (.ref x :: st) f Q := pz_go (pz_so d27_26 rfl)
theorem q27_26n {dA : Nat → ClassId} {d : Nat} {st : List Value} {f : pz_F} {Q : Option Value → pz_F → Prop} {v0 v2 : Value} : pz_R dA d 27 26 [v0, .null, v2] st f Q = pz_R dA d 27 27 [v0, .null, v2] (.null :: st) f Q := pz_go (pz_so d27_26 rfl)
theorem d27_27 : decode (pz_b 27) 27 = .ok (.getfield 80, 3) := by decide +kernel
theorem q27_27 {dA : Nat → ClassId} {d : Nat} {st : List Value} {f : pz_F} {Q : Option Value → pz_F → Prop} {v0 v1 v2 : Value} {a : Nat} : pz_R dA d 27 27 [v0, v1, v2] (.ref a :: st) f Q = pz_o (pz_gf f a 5 5) (fun v => pz_R dA d 27 30 [v0, v1, v2] (v :: st) f Q) := pz_gg d27_27 rfl
theorem d27_30 : decode (pz_b 27) 30 = .ok (.putfield 80, 3) := by decide +kernel
theorem q27_30 {dA : Nat → ClassId} {d : Nat} {st : List Value} {f : pz_F} {Q : Option Value → pz_F → Prop} {v0 v1 v2 : Value} {x : Int32} {a : Nat} : pz_R dA d 27 30 [v0, v1, v2] (.int x :: .ref a :: st) f Q = pz_o (pz_pf f a 5 5 (.int x)) (fun f' => pz_R dA d 27 33 [v0, v1, v2] st f' Q) := pz_gp d27_30 rfl rfl rfl rfl
theorem d27_33 : decode (pz_b 27) 33 = .ok (.aload_n 2, 1) := by decide +kernel
theorem q27_33 {dA : Nat → ClassId} {d : Nat} {st : List Value} {f : pz_F} {Q : Option Value → pz_F → Prop} {v0 v1 : Value} {x : Nat} : pz_R dA d 27 33 [v0, v1, .ref x] st f Q = pz_R dA d 27 34 [v0, v1, .ref x] (.ref x :: st) f Q := pz_go (pz_so d27_33 rfl)
theorem q27_33n {dA : Nat → ClassId} {d : Nat} {st : List Value} {f : pz_F} {Q : Option Value → pz_F → Prop} {v0 v1 : Value} : pz_R dA d 27 33 [v0, v1, .null] st f Q = pz_R dA d 27 34 [v0, v1, .null] (.null :: st) f Q := pz_go (pz_so d27_33 rfl)
theorem d27_34 : decode (pz_b 27) 34 = .ok (.aload_n 1, 1) := by decide +kernel
theorem q27_34 {dA : Nat → ClassId} {d : Nat} {st : List Value} {f : pz_F} {Q : Option Value → pz_F → Prop} {v0 v2 : Value} {x : Nat} : pz_R dA d 27 34 [v0, .ref x, v2] st f Q = pz_R dA d 27 35 [v0, .ref x, v2] (.ref x :: st) f Q := pz_go (pz_so d27_34 rfl)
theorem q27_34n {dA : Nat → ClassId} {d : Nat} {st : List Value} {f : pz_F} {Q : Option Value → pz_F → Prop} {v0 v2 : Value} : pz_R dA d 27 34 [v0, .null, v2] st f Q = pz_R dA d 27 35 [v0, .null, v2] (.null :: st) f Q := pz_go (pz_so d27_34 rfl)
theorem d27_35 : decode (pz_b 27) 35 = .ok (.getfield 193, 3) := by decide +kernel
theorem q27_35 {dA : Nat → ClassId} {d : Nat} {st : List Value} {f : pz_F} {Q : Option Value → pz_F → Prop} {v0 v1 v2 : Value} {a : Nat} : pz_R dA d 27 35 [v0, v1, v2] (.ref a :: st) f Q = pz_o (pz_gf f a 5 9) (fun v => pz_R dA d 27 38 [v0, v1, v2] (v :: st) f Q) := pz_gg d27_35 rfl
theorem d27_38 : decode (pz_b 27) 38 = .ok (.putfield 193, 3) := by decide +kernel
theorem q27_38 {dA : Nat → ClassId} {d : Nat} {st : List Value} {f : pz_F} {Q : Option Value → pz_F → Prop} {v0 v1 v2 : Value} {x : Int32} {a : Nat} : pz_R dA d 27 38 [v0, v1, v2] (.int x :: .ref a :: st) f Q = pz_o (pz_pf f a 5 9 (.int x)) (fun f' => pz_R dA d 27 41 [v0, v1, v2] st f' Q) := pz_gp d27_38 rfl rfl rfl rfl
theorem d27_41 : decode (pz_b 27) 41 = .ok (.aload_n 2, 1) := by decide +kernel
theorem q27_41 {dA : Nat → ClassId} {d : Nat} {st : List Value} {f : pz_F} {Q : Option Value → pz_F → Prop} {v0 v1 : Value} {x : Nat} : pz_R dA d 27 41 [v0, v1, .ref x] st f Q = pz_R dA d 27 42 [v0, v1, .ref x] (.ref x :: st) f Q := pz_go (pz_so d27_41 rfl)
theorem q27_41n {dA : Nat → ClassId} {d : Nat} {st : List Value} {f : pz_F} {Q : Option Value → pz_F → Prop} {v0 v1 : Value} : pz_R dA d 27 41 [v0, v1, .null] st f Q = pz_R dA d 27 42 [v0, v1, .null] (.null :: st) f Q := pz_go (pz_so d27_41 rfl)
theorem d27_42 : decode (pz_b 27) 42 = .ok (.aload_n 1, 1) := by decide +kernel
theorem q27_42 {dA : Nat → ClassId} {d : Nat} {st : List Value} {f : pz_F} {Q : Option Value → pz_F → Prop} {v0 v2 : Value} {x : Nat} : pz_R dA d 27 42 [v0, .ref x, v2] st f Q = pz_R dA d 27 43 [v0, .ref x, v2] (.ref x :: st) f Q := pz_go (pz_so d27_42 rfl)
theorem q27_42n {dA : Nat → ClassId} {d : Nat} {st : List Value} {f : pz_F} {Q : Option Value → pz_F → Prop} {v0 v2 : Value} : pz_R dA d 27 42 [v0, .null, v2] st f Q = pz_R dA d 27 43 [v0, .null, v2] (.null :: st) f Q := pz_go (pz_so d27_42 rfl)
theorem d27_43 : decode (pz_b 27) 43 = .ok (.getfield 197, 3) := by decide +kernel
theorem q27_43 {dA : Nat → ClassId} {d : Nat} {st : List Value} {f : pz_F} {Q : Option Value → pz_F → Prop} {v0 v1 v2 : Value} {a : Nat} : pz_R dA d 27 43 [v0, v1, v2] (.ref a :: st) f Q = pz_o (pz_gf f a 5 10) (fun v => pz_R dA d 27 46 [v0, v1, v2] (v :: st) f Q) := pz_gg d27_43 rfl
theorem d27_46 : decode (pz_b 27) 46 = .ok (.putfield 197, 3) := by decide +kernel
theorem q27_46 {dA : Nat → ClassId} {d : Nat} {st : List Value} {f : pz_F} {Q : Option Value → pz_F → Prop} {v0 v1 v2 : Value} {x : Int32} {a : Nat} : pz_R dA d 27 46 [v0, v1, v2] (.int x :: .ref a :: st) f Q = pz_o (pz_pf f a 5 10 (.int x)) (fun f' => pz_R dA d 27 49 [v0, v1, v2] st f' Q) := pz_gp d27_46 rfl rfl rfl rfl
theorem d27_49 : decode (pz_b 27) 49 = .ok (.aload_n 2, 1) := by decide +kernel
theorem q27_49 {dA : Nat → ClassId} {d : Nat} {st : List Value} {f : pz_F} {Q : Option Value → pz_F → Prop} {v0 v1 : Value} {x : Nat} : pz_R dA d 27 49 [v0, v1, .ref x] st f Q = pz_R dA d 27 50 [v0, v1, .ref x] (.ref x :: st) f Q := pz_go (pz_so d27_49 rfl)
theorem q27_49n {dA : Nat → ClassId} {d : Nat} {st : List Value} {f : pz_F} {Q : Option Value → pz_F → Prop} {v0 v1 : Value} : pz_R dA d 27 49 [v0, v1, .null] st f Q = pz_R dA d 27 50 [v0, v1, .null] (.null :: st) f Q := pz_go (pz_so d27_49 rfl)
theorem d27_50 : decode (pz_b 27) 50 = .ok (.aload_n 1, 1) := by decide +kernel
theorem q27_50 {dA : Nat → ClassId} {d : Nat} {st : List Value} {f : pz_F} {Q : Option Value → pz_F → Prop} {v0 v2 : Value} {x : Nat} : pz_R dA d 27 50 [v0, .ref x, v2] st f Q = pz_R dA d 27 51 [v0, .ref x, v2] (.ref x :: st) f Q := pz_go (pz_so d27_50 rfl)
theorem q27_50n {dA : Nat → ClassId} {d : Nat} {st : List Value} {f : pz_F} {Q : Option Value → pz_F → Prop} {v0 v2 : Value} : pz_R dA d 27 50 [v0, .null, v2] st f Q = pz_R dA d 27 51 [v0, .null, v2] (.null :: st) f Q := pz_go (pz_so d27_50 rfl)
theorem d27_51 : decode (pz_b 27) 51 = .ok (.getfield 198, 3) := by decide +kernel
theorem q27_51 {dA : Nat → ClassId} {d : Nat} {st : List Value} {f : pz_F} {Q : Option Value → pz_F → Prop} {v0 v1 v2 : Value} {a : Nat} : pz_R dA d 27 51 [v0, v1, v2] (.ref a :: st) f Q = pz_o (pz_gf f a 5 11) (fun v => pz_R dA d 27 54 [v0, v1, v2] (v :: st) f Q) := pz_gg d27_51 rfl
theorem d27_54 : decode (pz_b 27) 54 = .ok (.putfield 198, 3) := by decide +kernel
theorem q27_54 {dA : Nat → ClassId} {d : Nat} {st : List Value} {f : pz_F} {Q : Option Value → pz_F → Prop} {v0 v1 v2 : Value} {x : Int32} {a : Nat} : pz_R dA d 27 54 [v0, v1, v2] (.int x :: .ref a :: st) f Q = pz_o (pz_pf f a 5 11 (.int x)) (fun f' => pz_R dA d 27 57 [v0, v1, v2] st f' Q) := pz_gp d27_54 rfl rfl rfl rfl
theorem d27_57 : decode (pz_b 27) 57 = .ok (.return_, 1) := by decide +kernel
theorem q27_57 {dA : Nat → ClassId} {d : Nat} {st : List Value} {f : pz_F} {Q : Option Value → pz_F → Prop} {v0 v1 v2 : Value} : pz_R dA d 27 57 [v0, v1, v2] [] f Q = Q none f := pz_gr (pz_so d27_57 rfl)
/-! P_canArrive (LLeasePair$Message;)Z -/
theorem e28 {dA : Nat → ClassId} {d : Nat} {f : pz_F} {Q : Option Value → pz_F → Prop} {a0 : Nat} {a1 : Nat} : pz_C dA d 28 [.ref a0, .ref a1] f Q = pz_R dA d 28 0 [.ref a0, .ref a1] [] f Q := rfl
theorem d28_0 : decode (pz_b 28) 0 = .ok (.aload_n 1, 1) := by decide +kernel
theorem q28_0 {dA : Nat → ClassId} {d : Nat} {st : List Value} {f : pz_F} {Q : Option Value → pz_F → Prop} {v0 : Value} {x : Nat} : pz_R dA d 28 0 [v0, .ref x] st f Q = pz_R dA d 28 1 [v0, .ref x] (.ref x :: st) f Q := pz_go (pz_so d28_0 rfl)
theorem q28_0n {dA : Nat → ClassId} {d : Nat} {st : List Value} {f : pz_F} {Q : Option Value → pz_F → Prop} {v0 : Value} : pz_R dA d 28 0 [v0, .null] st f Q = pz_R dA d 28 1 [v0, .null] (.null :: st) f Q := pz_go (pz_so d28_0 rfl)
theorem d28_1 : decode (pz_b 28) 1 = .ok (.invokevirtual 218, 3) := by decide +kernel
theorem q28_1 {dA : Nat → ClassId} {d : Nat} {st : List Value} {f : pz_F} {Q : Option Value → pz_F → Prop} {v0 v1 : Value} {b : Nat} (hr : st.length ≤ 4) : pz_R dA (d + 1) 28 1 [v0, v1] (.ref b :: st) f Q = pz_o (pz_gu f b 5) (fun _ => pz_C dA d 81 [.ref b] f (fun r f' => pz_R dA (d + 1) 28 4 [v0, v1] (r.toList ++ st) f' Q)) := pz_gcv (As := []) d28_1 rfl rfl rfl hr
theorem d28_4 : decode (pz_b 28) 4 = .ok (.ifCond .eq 8, 3) := by decide +kernel
theorem q28_4 {dA : Nat → ClassId} {d : Nat} {st : List Value} {f : pz_F} {Q : Option Value → pz_F → Prop} {v0 v1 : Value} {x : Int32} : pz_R dA d 28 4 [v0, v1] (.int x :: st) f Q = (if x = 0 then pz_R dA d 28 12 [v0, v1] st f Q else pz_R dA d 28 7 [v0, v1] st f Q) := pz_gj1 .eq d28_4 rfl
theorem d28_7 : decode (pz_b 28) 7 = .ok (.aload_n 0, 1) := by decide +kernel
theorem q28_7 {dA : Nat → ClassId} {d : Nat} {st : List Value} {f : pz_F} {Q : Option Value → pz_F → Prop} {v1 : Value} {x : Nat} : pz_R dA d 28 7 [.ref x, v1] st f Q = pz_R dA d 28 8 [.ref x, v1] (.ref x :: st) f Q := pz_go (pz_so d28_7 rfl)
theorem d28_8 : decode (pz_b 28) 8 = .ok (.invokevirtual 143, 3) := by decide +kernel
theorem q28_8 {dA : Nat → ClassId} {d : Nat} {st : List Value} {f : pz_F} {Q : Option Value → pz_F → Prop} {v0 v1 : Value} {b : Nat} (hr : st.length ≤ 4) : pz_R dA (d + 1) 28 8 [v0, v1] (.ref b :: st) f Q = pz_o (pz_gu f b 0) (fun _ => pz_C dA d 19 [.ref b] f (fun r f' => pz_R dA (d + 1) 28 11 [v0, v1] (r.toList ++ st) f' Q)) := pz_gcv (As := []) d28_8 rfl rfl rfl hr
theorem d28_11 : decode (pz_b 28) 11 = .ok (.ireturn, 1) := by decide +kernel
theorem q28_11z {dA : Nat → ClassId} {d : Nat} {st : List Value} {f : pz_F} {Q : Option Value → pz_F → Prop} {v0 v1 : Value} : pz_R dA d 28 11 [v0, v1] [.int 0] f Q = Q (some (.int 0)) f := pz_gri d28_11 rfl rfl
theorem q28_11o {dA : Nat → ClassId} {d : Nat} {st : List Value} {f : pz_F} {Q : Option Value → pz_F → Prop} {v0 v1 : Value} : pz_R dA d 28 11 [v0, v1] [.int 1] f Q = Q (some (.int 1)) f := pz_gri d28_11 rfl rfl
theorem d28_12 : decode (pz_b 28) 12 = .ok (.aload_n 1, 1) := by decide +kernel
theorem q28_12 {dA : Nat → ClassId} {d : Nat} {st : List Value} {f : pz_F} {Q : Option Value → pz_F → Prop} {v0 : Value} {x : Nat} : pz_R dA d 28 12 [v0, .ref x] st f Q = pz_R dA d 28 13 [v0, .ref x] (.ref x :: st) f Q := pz_go (pz_so d28_12 rfl)
theorem q28_12n {dA : Nat → ClassId} {d : Nat} {st : List Value} {f : pz_F} {Q : Option Value → pz_F → Prop} {v0 : Value} : pz_R dA d 28 12 [v0, .null] st f Q = pz_R dA d 28 13 [v0, .null] (.null :: st) f Q := pz_go (pz_so d28_12 rfl)
theorem d28_13 : decode (pz_b 28) 13 = .ok (.invokevirtual 221, 3) := by decide +kernel
theorem q28_13 {dA : Nat → ClassId} {d : Nat} {st : List Value} {f : pz_F} {Q : Option Value → pz_F → Prop} {v0 v1 : Value} {b : Nat} (hr : st.length ≤ 4) : pz_R dA (d + 1) 28 13 [v0, v1] (.ref b :: st) f Q = pz_o (pz_gu f b 5) (fun _ => pz_C dA d 82 [.ref b] f (fun r f' => pz_R dA (d + 1) 28 16 [v0, v1] (r.toList ++ st) f' Q)) := pz_gcv (As := []) d28_13 rfl rfl rfl hr
theorem d28_16 : decode (pz_b 28) 16 = .ok (.ifCond .eq 18, 3) := by decide +kernel
theorem q28_16 {dA : Nat → ClassId} {d : Nat} {st : List Value} {f : pz_F} {Q : Option Value → pz_F → Prop} {v0 v1 : Value} {x : Int32} : pz_R dA d 28 16 [v0, v1] (.int x :: st) f Q = (if x = 0 then pz_R dA d 28 34 [v0, v1] st f Q else pz_R dA d 28 19 [v0, v1] st f Q) := pz_gj1 .eq d28_16 rfl
theorem d28_19 : decode (pz_b 28) 19 = .ok (.aload_n 0, 1) := by decide +kernel
theorem q28_19 {dA : Nat → ClassId} {d : Nat} {st : List Value} {f : pz_F} {Q : Option Value → pz_F → Prop} {v1 : Value} {x : Nat} : pz_R dA d 28 19 [.ref x, v1] st f Q = pz_R dA d 28 20 [.ref x, v1] (.ref x :: st) f Q := pz_go (pz_so d28_19 rfl)
theorem d28_20 : decode (pz_b 28) 20 = .ok (.getfield 19, 3) := by decide +kernel
theorem q28_20 {dA : Nat → ClassId} {d : Nat} {st : List Value} {f : pz_F} {Q : Option Value → pz_F → Prop} {v0 v1 : Value} {a : Nat} : pz_R dA d 28 20 [v0, v1] (.ref a :: st) f Q = pz_o (pz_gf f a 0 2) (fun v => pz_R dA d 28 23 [v0, v1] (v :: st) f Q) := pz_gg d28_20 rfl
theorem d28_23 : decode (pz_b 28) 23 = .ok (.aload_n 1, 1) := by decide +kernel
theorem q28_23 {dA : Nat → ClassId} {d : Nat} {st : List Value} {f : pz_F} {Q : Option Value → pz_F → Prop} {v0 : Value} {x : Nat} : pz_R dA d 28 23 [v0, .ref x] st f Q = pz_R dA d 28 24 [v0, .ref x] (.ref x :: st) f Q := pz_go (pz_so d28_23 rfl)
theorem q28_23n {dA : Nat → ClassId} {d : Nat} {st : List Value} {f : pz_F} {Q : Option Value → pz_F → Prop} {v0 : Value} : pz_R dA d 28 23 [v0, .null] st f Q = pz_R dA d 28 24 [v0, .null] (.null :: st) f Q := pz_go (pz_so d28_23 rfl)
theorem d28_24 : decode (pz_b 28) 24 = .ok (.getfield 212, 3) := by decide +kernel
theorem q28_24 {dA : Nat → ClassId} {d : Nat} {st : List Value} {f : pz_F} {Q : Option Value → pz_F → Prop} {v0 v1 : Value} {a : Nat} : pz_R dA d 28 24 [v0, v1] (.ref a :: st) f Q = pz_o (pz_gf f a 5 2) (fun v => pz_R dA d 28 27 [v0, v1] (v :: st) f Q) := pz_gg d28_24 rfl
theorem d28_27 : decode (pz_b 28) 27 = .ok (.aaload, 1) := by decide +kernel
theorem q28_27 {dA : Nat → ClassId} {d : Nat} {st : List Value} {f : pz_F} {Q : Option Value → pz_F → Prop} {v0 v1 : Value} {i : Int32} {a : Nat} : pz_R dA d 28 27 [v0, v1] (.int i :: .ref a :: st) f Q = pz_o (pz_rl dA f a i) (fun v => pz_R dA d 28 28 [v0, v1] (v :: st) f Q) := pz_grl d28_27
theorem d28_28 : decode (pz_b 28) 28 = .ok (.getfield 46, 3) := by decide +kernel
theorem q28_28 {dA : Nat → ClassId} {d : Nat} {st : List Value} {f : pz_F} {Q : Option Value → pz_F → Prop} {v0 v1 : Value} {a : Nat} : pz_R dA d 28 28 [v0, v1] (.ref a :: st) f Q = pz_o (pz_gf f a 1 2) (fun v => pz_R dA d 28 31 [v0, v1] (v :: st) f Q) := pz_gg d28_28 rfl
theorem d28_31 : decode (pz_b 28) 31 = .ok (.ifCond .eq 7, 3) := by decide +kernel
theorem q28_31 {dA : Nat → ClassId} {d : Nat} {st : List Value} {f : pz_F} {Q : Option Value → pz_F → Prop} {v0 v1 : Value} {x : Int32} : pz_R dA d 28 31 [v0, v1] (.int x :: st) f Q = (if x = 0 then pz_R dA d 28 38 [v0, v1] st f Q else pz_R dA d 28 34 [v0, v1] st f Q) := pz_gj1 .eq d28_31 rfl
theorem d28_34 : decode (pz_b 28) 34 = .ok (.iconst 1, 1) := by decide +kernel
theorem q28_34 {dA : Nat → ClassId} {d : Nat} {st : List Value} {f : pz_F} {Q : Option Value → pz_F → Prop} {v0 v1 : Value} : pz_R dA d 28 34 [v0, v1] st f Q = pz_R dA d 28 35 [v0, v1] (.int 1 :: st) f Q := pz_go (pz_so d28_34 rfl)
theorem d28_35 : decode (pz_b 28) 35 = .ok (.goto 4, 3) := by decide +kernel
theorem q28_35 {dA : Nat → ClassId} {d : Nat} {st : List Value} {f : pz_F} {Q : Option Value → pz_F → Prop} {v0 v1 : Value} : pz_R dA d 28 35 [v0, v1] st f Q = pz_R dA d 28 39 [v0, v1] st f Q := pz_go (pz_so d28_35 rfl)
theorem d28_38 : decode (pz_b 28) 38 = .ok (.iconst 0, 1) := by decide +kernel
theorem q28_38 {dA : Nat → ClassId} {d : Nat} {st : List Value} {f : pz_F} {Q : Option Value → pz_F → Prop} {v0 v1 : Value} : pz_R dA d 28 38 [v0, v1] st f Q = pz_R dA d 28 39 [v0, v1] (.int 0 :: st) f Q := pz_go (pz_so d28_38 rfl)
theorem d28_39 : decode (pz_b 28) 39 = .ok (.ireturn, 1) := by decide +kernel
theorem q28_39z {dA : Nat → ClassId} {d : Nat} {st : List Value} {f : pz_F} {Q : Option Value → pz_F → Prop} {v0 v1 : Value} : pz_R dA d 28 39 [v0, v1] [.int 0] f Q = Q (some (.int 0)) f := pz_gri d28_39 rfl rfl
theorem q28_39o {dA : Nat → ClassId} {d : Nat} {st : List Value} {f : pz_F} {Q : Option Value → pz_F → Prop} {v0 v1 : Value} : pz_R dA d 28 39 [v0, v1] [.int 1] f Q = Q (some (.int 1)) f := pz_gri d28_39 rfl rfl
/-! P_arrive (LLeasePair$Message;)V -/
theorem e29 {dA : Nat → ClassId} {d : Nat} {f : pz_F} {Q : Option Value → pz_F → Prop} {a0 : Nat} {a1 : Nat} : pz_C dA d 29 [.ref a0, .ref a1] f Q = pz_R dA d 29 0 [.ref a0, .ref a1] [] f Q := rfl
theorem d29_0 : decode (pz_b 29) 0 = .ok (.aload_n 1, 1) := by decide +kernel
theorem q29_0 {dA : Nat → ClassId} {d : Nat} {st : List Value} {f : pz_F} {Q : Option Value → pz_F → Prop} {v0 : Value} {x : Nat} : pz_R dA d 29 0 [v0, .ref x] st f Q = pz_R dA d 29 1 [v0, .ref x] (.ref x :: st) f Q := pz_go (pz_so d29_0 rfl)
theorem q29_0n {dA : Nat → ClassId} {d : Nat} {st : List Value} {f : pz_F} {Q : Option Value → pz_F → Prop} {v0 : Value} : pz_R dA d 29 0 [v0, .null] st f Q = pz_R dA d 29 1 [v0, .null] (.null :: st) f Q := pz_go (pz_so d29_0 rfl)
theorem d29_1 : decode (pz_b 29) 1 = .ok (.getfield 224, 3) := by decide +kernel
theorem q29_1 {dA : Nat → ClassId} {d : Nat} {st : List Value} {f : pz_F} {Q : Option Value → pz_F → Prop} {v0 v1 : Value} {a : Nat} : pz_R dA d 29 1 [v0, v1] (.ref a :: st) f Q = pz_o (pz_gf f a 5 0) (fun v => pz_R dA d 29 4 [v0, v1] (v :: st) f Q) := pz_gg d29_1 rfl
theorem d29_4 : decode (pz_b 29) 4 = .ok (.tableswitch 108 0 5 #[40, 48, 68, 84, 92, 100], 40) := by decide +kernel
theorem q29_4 {dA : Nat → ClassId} {d : Nat} {st : List Value} {f : pz_F} {Q : Option Value → pz_F → Prop} {v0 v1 : Value} {x : Int32} : pz_R dA d 29 4 [v0, v1] (.int x :: st) f Q = if x = 0 then pz_R dA d 29 44 [v0, v1] st f Q else (if x = 1 then pz_R dA d 29 52 [v0, v1] st f Q else (if x = 2 then pz_R dA d 29 72 [v0, v1] st f Q else (if x = 3 then pz_R dA d 29 88 [v0, v1] st f Q else (if x = 4 then pz_R dA d 29 96 [v0, v1] st f Q else (if x = 5 then pz_R dA d 29 104 [v0, v1] st f Q else (pz_R dA d 29 112 [v0, v1] st f Q)))))) := by
  by_cases h0 : x = 0
  · subst h0
    rw [if_pos rfl]
    exact pz_gti d29_4 (by decide) rfl rfl
  rw [if_neg h0]
  by_cases h1 : x = 1
  · subst h1
    rw [if_pos rfl]
    exact pz_gti d29_4 (by decide) rfl rfl
  rw [if_neg h1]
  by_cases h2 : x = 2
  · subst h2
    rw [if_pos rfl]
    exact pz_gti d29_4 (by decide) rfl rfl
  rw [if_neg h2]
  by_cases h3 : x = 3
  · subst h3
    rw [if_pos rfl]
    exact pz_gti d29_4 (by decide) rfl rfl
  rw [if_neg h3]
  by_cases h4 : x = 4
  · subst h4
    rw [if_pos rfl]
    exact pz_gti d29_4 (by decide) rfl rfl
  rw [if_neg h4]
  by_cases h5 : x = 5
  · subst h5
    rw [if_pos rfl]
    exact pz_gti d29_4 (by decide) rfl rfl
  rw [if_neg h5]
  refine pz_gtd d29_4 ?_ rfl
  have g0 : ¬ x.toInt = 0 := lv_neT h0 (by decide)
  have g1 : ¬ x.toInt = 1 := lv_neT h1 (by decide)
  have g2 : ¬ x.toInt = 2 := lv_neT h2 (by decide)
  have g3 : ¬ x.toInt = 3 := lv_neT h3 (by decide)
  have g4 : ¬ x.toInt = 4 := lv_neT h4 (by decide)
  have g5 : ¬ x.toInt = 5 := lv_neT h5 (by decide)
  omega
theorem d29_44 : decode (pz_b 29) 44 = .ok (.aload_n 0, 1) := by decide +kernel
theorem q29_44 {dA : Nat → ClassId} {d : Nat} {st : List Value} {f : pz_F} {Q : Option Value → pz_F → Prop} {v1 : Value} {x : Nat} : pz_R dA d 29 44 [.ref x, v1] st f Q = pz_R dA d 29 45 [.ref x, v1] (.ref x :: st) f Q := pz_go (pz_so d29_44 rfl)
theorem d29_45 : decode (pz_b 29) 45 = .ok (.aload_n 1, 1) := by decide +kernel
theorem q29_45 {dA : Nat → ClassId} {d : Nat} {st : List Value} {f : pz_F} {Q : Option Value → pz_F → Prop} {v0 : Value} {x : Nat} : pz_R dA d 29 45 [v0, .ref x] st f Q = pz_R dA d 29 46 [v0, .ref x] (.ref x :: st) f Q := pz_go (pz_so d29_45 rfl)
theorem q29_45n {dA : Nat → ClassId} {d : Nat} {st : List Value} {f : pz_F} {Q : Option Value → pz_F → Prop} {v0 : Value} : pz_R dA d 29 45 [v0, .null] st f Q = pz_R dA d 29 46 [v0, .null] (.null :: st) f Q := pz_go (pz_so d29_45 rfl)
theorem d29_46 : decode (pz_b 29) 46 = .ok (.invokevirtual 225, 3) := by decide +kernel
theorem q29_46 {dA : Nat → ClassId} {d : Nat} {st : List Value} {f : pz_F} {Q : Option Value → pz_F → Prop} {v0 v1 : Value} {c0 : Nat} {b : Nat} (hr : st.length ≤ 4) : pz_R dA (d + 1) 29 46 [v0, v1] (.ref c0 :: .ref b :: st) f Q = pz_o (pz_gu f b 0) (fun _ => pz_C dA d 30 [.ref b, .ref c0] f (fun r f' => pz_R dA (d + 1) 29 49 [v0, v1] (r.toList ++ st) f' Q)) := pz_gcv (As := [.ref c0]) d29_46 rfl rfl rfl hr
theorem d29_49 : decode (pz_b 29) 49 = .ok (.goto 68, 3) := by decide +kernel
theorem q29_49 {dA : Nat → ClassId} {d : Nat} {st : List Value} {f : pz_F} {Q : Option Value → pz_F → Prop} {v0 v1 : Value} : pz_R dA d 29 49 [v0, v1] st f Q = pz_R dA d 29 117 [v0, v1] st f Q := pz_go (pz_so d29_49 rfl)
theorem d29_52 : decode (pz_b 29) 52 = .ok (.aload_n 0, 1) := by decide +kernel
theorem q29_52 {dA : Nat → ClassId} {d : Nat} {st : List Value} {f : pz_F} {Q : Option Value → pz_F → Prop} {v1 : Value} {x : Nat} : pz_R dA d 29 52 [.ref x, v1] st f Q = pz_R dA d 29 53 [.ref x, v1] (.ref x :: st) f Q := pz_go (pz_so d29_52 rfl)
theorem d29_53 : decode (pz_b 29) 53 = .ok (.getfield 28, 3) := by decide +kernel
theorem q29_53 {dA : Nat → ClassId} {d : Nat} {st : List Value} {f : pz_F} {Q : Option Value → pz_F → Prop} {v0 v1 : Value} {a : Nat} : pz_R dA d 29 53 [v0, v1] (.ref a :: st) f Q = pz_o (pz_gf f a 0 3) (fun v => pz_R dA d 29 56 [v0, v1] (v :: st) f Q) := pz_gg d29_53 rfl
theorem d29_56 : decode (pz_b 29) 56 = .ok (.aload_n 1, 1) := by decide +kernel
theorem q29_56 {dA : Nat → ClassId} {d : Nat} {st : List Value} {f : pz_F} {Q : Option Value → pz_F → Prop} {v0 : Value} {x : Nat} : pz_R dA d 29 56 [v0, .ref x] st f Q = pz_R dA d 29 57 [v0, .ref x] (.ref x :: st) f Q := pz_go (pz_so d29_56 rfl)
theorem q29_56n {dA : Nat → ClassId} {d : Nat} {st : List Value} {f : pz_F} {Q : Option Value → pz_F → Prop} {v0 : Value} : pz_R dA d 29 56 [v0, .null] st f Q = pz_R dA d 29 57 [v0, .null] (.null :: st) f Q := pz_go (pz_so d29_56 rfl)
theorem d29_57 : decode (pz_b 29) 57 = .ok (.getfield 212, 3) := by decide +kernel
theorem q29_57 {dA : Nat → ClassId} {d : Nat} {st : List Value} {f : pz_F} {Q : Option Value → pz_F → Prop} {v0 v1 : Value} {a : Nat} : pz_R dA d 29 57 [v0, v1] (.ref a :: st) f Q = pz_o (pz_gf f a 5 2) (fun v => pz_R dA d 29 60 [v0, v1] (v :: st) f Q) := pz_gg d29_57 rfl
theorem d29_60 : decode (pz_b 29) 60 = .ok (.aaload, 1) := by decide +kernel
theorem q29_60 {dA : Nat → ClassId} {d : Nat} {st : List Value} {f : pz_F} {Q : Option Value → pz_F → Prop} {v0 v1 : Value} {i : Int32} {a : Nat} : pz_R dA d 29 60 [v0, v1] (.int i :: .ref a :: st) f Q = pz_o (pz_rl dA f a i) (fun v => pz_R dA d 29 61 [v0, v1] (v :: st) f Q) := pz_grl d29_60
theorem d29_61 : decode (pz_b 29) 61 = .ok (.aload_n 1, 1) := by decide +kernel
theorem q29_61 {dA : Nat → ClassId} {d : Nat} {st : List Value} {f : pz_F} {Q : Option Value → pz_F → Prop} {v0 : Value} {x : Nat} : pz_R dA d 29 61 [v0, .ref x] st f Q = pz_R dA d 29 62 [v0, .ref x] (.ref x :: st) f Q := pz_go (pz_so d29_61 rfl)
theorem q29_61n {dA : Nat → ClassId} {d : Nat} {st : List Value} {f : pz_F} {Q : Option Value → pz_F → Prop} {v0 : Value} : pz_R dA d 29 61 [v0, .null] st f Q = pz_R dA d 29 62 [v0, .null] (.null :: st) f Q := pz_go (pz_so d29_61 rfl)
theorem d29_62 : decode (pz_b 29) 62 = .ok (.aload_n 0, 1) := by decide +kernel
theorem q29_62 {dA : Nat → ClassId} {d : Nat} {st : List Value} {f : pz_F} {Q : Option Value → pz_F → Prop} {v1 : Value} {x : Nat} : pz_R dA d 29 62 [.ref x, v1] st f Q = pz_R dA d 29 63 [.ref x, v1] (.ref x :: st) f Q := pz_go (pz_so d29_62 rfl)
theorem d29_63 : decode (pz_b 29) 63 = .ok (.getfield 7, 3) := by decide +kernel
theorem q29_63 {dA : Nat → ClassId} {d : Nat} {st : List Value} {f : pz_F} {Q : Option Value → pz_F → Prop} {v0 v1 : Value} {a : Nat} : pz_R dA d 29 63 [v0, v1] (.ref a :: st) f Q = pz_o (pz_gf f a 0 0) (fun v => pz_R dA d 29 66 [v0, v1] (v :: st) f Q) := pz_gg d29_63 rfl
theorem d29_66 : decode (pz_b 29) 66 = .ok (.invokevirtual 228, 3) := by decide +kernel
theorem q29_66 {dA : Nat → ClassId} {d : Nat} {st : List Value} {f : pz_F} {Q : Option Value → pz_F → Prop} {v0 v1 : Value} {c0 : Nat} {c1 : Int32} {b : Nat} (hr : st.length ≤ 4) : pz_R dA (d + 1) 29 66 [v0, v1] (.int c1 :: .ref c0 :: .ref b :: st) f Q = pz_o (pz_gu f b 3) (fun _ => pz_C dA d 69 [.ref b, .ref c0, .int c1] f (fun r f' => pz_R dA (d + 1) 29 69 [v0, v1] (r.toList ++ st) f' Q)) := pz_gcv (As := [.ref c0, .int c1]) d29_66 rfl rfl rfl hr
theorem d29_69 : decode (pz_b 29) 69 = .ok (.goto 48, 3) := by decide +kernel
theorem q29_69 {dA : Nat → ClassId} {d : Nat} {st : List Value} {f : pz_F} {Q : Option Value → pz_F → Prop} {v0 v1 : Value} : pz_R dA d 29 69 [v0, v1] st f Q = pz_R dA d 29 117 [v0, v1] st f Q := pz_go (pz_so d29_69 rfl)
theorem d29_72 : decode (pz_b 29) 72 = .ok (.aload_n 0, 1) := by decide +kernel
theorem q29_72 {dA : Nat → ClassId} {d : Nat} {st : List Value} {f : pz_F} {Q : Option Value → pz_F → Prop} {v1 : Value} {x : Nat} : pz_R dA d 29 72 [.ref x, v1] st f Q = pz_R dA d 29 73 [.ref x, v1] (.ref x :: st) f Q := pz_go (pz_so d29_72 rfl)
theorem d29_73 : decode (pz_b 29) 73 = .ok (.getfield 28, 3) := by decide +kernel
theorem q29_73 {dA : Nat → ClassId} {d : Nat} {st : List Value} {f : pz_F} {Q : Option Value → pz_F → Prop} {v0 v1 : Value} {a : Nat} : pz_R dA d 29 73 [v0, v1] (.ref a :: st) f Q = pz_o (pz_gf f a 0 3) (fun v => pz_R dA d 29 76 [v0, v1] (v :: st) f Q) := pz_gg d29_73 rfl
theorem d29_76 : decode (pz_b 29) 76 = .ok (.aload_n 1, 1) := by decide +kernel
theorem q29_76 {dA : Nat → ClassId} {d : Nat} {st : List Value} {f : pz_F} {Q : Option Value → pz_F → Prop} {v0 : Value} {x : Nat} : pz_R dA d 29 76 [v0, .ref x] st f Q = pz_R dA d 29 77 [v0, .ref x] (.ref x :: st) f Q := pz_go (pz_so d29_76 rfl)
theorem q29_76n {dA : Nat → ClassId} {d : Nat} {st : List Value} {f : pz_F} {Q : Option Value → pz_F → Prop} {v0 : Value} : pz_R dA d 29 76 [v0, .null] st f Q = pz_R dA d 29 77 [v0, .null] (.null :: st) f Q := pz_go (pz_so d29_76 rfl)
theorem d29_77 : decode (pz_b 29) 77 = .ok (.getfield 212, 3) := by decide +kernel
theorem q29_77 {dA : Nat → ClassId} {d : Nat} {st : List Value} {f : pz_F} {Q : Option Value → pz_F → Prop} {v0 v1 : Value} {a : Nat} : pz_R dA d 29 77 [v0, v1] (.ref a :: st) f Q = pz_o (pz_gf f a 5 2) (fun v => pz_R dA d 29 80 [v0, v1] (v :: st) f Q) := pz_gg d29_77 rfl
theorem d29_80 : decode (pz_b 29) 80 = .ok (.aaload, 1) := by decide +kernel
theorem q29_80 {dA : Nat → ClassId} {d : Nat} {st : List Value} {f : pz_F} {Q : Option Value → pz_F → Prop} {v0 v1 : Value} {i : Int32} {a : Nat} : pz_R dA d 29 80 [v0, v1] (.int i :: .ref a :: st) f Q = pz_o (pz_rl dA f a i) (fun v => pz_R dA d 29 81 [v0, v1] (v :: st) f Q) := pz_grl d29_80
theorem d29_81 : decode (pz_b 29) 81 = .ok (.aload_n 1, 1) := by decide +kernel
theorem q29_81 {dA : Nat → ClassId} {d : Nat} {st : List Value} {f : pz_F} {Q : Option Value → pz_F → Prop} {v0 : Value} {x : Nat} : pz_R dA d 29 81 [v0, .ref x] st f Q = pz_R dA d 29 82 [v0, .ref x] (.ref x :: st) f Q := pz_go (pz_so d29_81 rfl)
theorem q29_81n {dA : Nat → ClassId} {d : Nat} {st : List Value} {f : pz_F} {Q : Option Value → pz_F → Prop} {v0 : Value} : pz_R dA d 29 81 [v0, .null] st f Q = pz_R dA d 29 82 [v0, .null] (.null :: st) f Q := pz_go (pz_so d29_81 rfl)
theorem d29_82 : decode (pz_b 29) 82 = .ok (.invokevirtual 232, 3) := by decide +kernel
theorem q29_82 {dA : Nat → ClassId} {d : Nat} {st : List Value} {f : pz_F} {Q : Option Value → pz_F → Prop} {v0 v1 : Value} {c0 : Nat} {b : Nat} (hr : st.length ≤ 4) : pz_R dA (d + 1) 29 82 [v0, v1] (.ref c0 :: .ref b :: st) f Q = pz_o (pz_gu f b 3) (fun _ => pz_C dA d 70 [.ref b, .ref c0] f (fun r f' => pz_R dA (d + 1) 29 85 [v0, v1] (r.toList ++ st) f' Q)) := pz_gcv (As := [.ref c0]) d29_82 rfl rfl rfl hr
theorem d29_85 : decode (pz_b 29) 85 = .ok (.goto 32, 3) := by decide +kernel
theorem q29_85 {dA : Nat → ClassId} {d : Nat} {st : List Value} {f : pz_F} {Q : Option Value → pz_F → Prop} {v0 v1 : Value} : pz_R dA d 29 85 [v0, v1] st f Q = pz_R dA d 29 117 [v0, v1] st f Q := pz_go (pz_so d29_85 rfl)
theorem d29_88 : decode (pz_b 29) 88 = .ok (.aload_n 0, 1) := by decide +kernel
theorem q29_88 {dA : Nat → ClassId} {d : Nat} {st : List Value} {f : pz_F} {Q : Option Value → pz_F → Prop} {v1 : Value} {x : Nat} : pz_R dA d 29 88 [.ref x, v1] st f Q = pz_R dA d 29 89 [.ref x, v1] (.ref x :: st) f Q := pz_go (pz_so d29_88 rfl)
theorem d29_89 : decode (pz_b 29) 89 = .ok (.aload_n 1, 1) := by decide +kernel
theorem q29_89 {dA : Nat → ClassId} {d : Nat} {st : List Value} {f : pz_F} {Q : Option Value → pz_F → Prop} {v0 : Value} {x : Nat} : pz_R dA d 29 89 [v0, .ref x] st f Q = pz_R dA d 29 90 [v0, .ref x] (.ref x :: st) f Q := pz_go (pz_so d29_89 rfl)
theorem q29_89n {dA : Nat → ClassId} {d : Nat} {st : List Value} {f : pz_F} {Q : Option Value → pz_F → Prop} {v0 : Value} : pz_R dA d 29 89 [v0, .null] st f Q = pz_R dA d 29 90 [v0, .null] (.null :: st) f Q := pz_go (pz_so d29_89 rfl)
theorem d29_90 : decode (pz_b 29) 90 = .ok (.invokevirtual 235, 3) := by decide +kernel
theorem q29_90 {dA : Nat → ClassId} {d : Nat} {st : List Value} {f : pz_F} {Q : Option Value → pz_F → Prop} {v0 v1 : Value} {c0 : Nat} {b : Nat} (hr : st.length ≤ 4) : pz_R dA (d + 1) 29 90 [v0, v1] (.ref c0 :: .ref b :: st) f Q = pz_o (pz_gu f b 0) (fun _ => pz_C dA d 31 [.ref b, .ref c0] f (fun r f' => pz_R dA (d + 1) 29 93 [v0, v1] (r.toList ++ st) f' Q)) := pz_gcv (As := [.ref c0]) d29_90 rfl rfl rfl hr
theorem d29_93 : decode (pz_b 29) 93 = .ok (.goto 24, 3) := by decide +kernel
theorem q29_93 {dA : Nat → ClassId} {d : Nat} {st : List Value} {f : pz_F} {Q : Option Value → pz_F → Prop} {v0 v1 : Value} : pz_R dA d 29 93 [v0, v1] st f Q = pz_R dA d 29 117 [v0, v1] st f Q := pz_go (pz_so d29_93 rfl)
theorem d29_96 : decode (pz_b 29) 96 = .ok (.aload_n 0, 1) := by decide +kernel
theorem q29_96 {dA : Nat → ClassId} {d : Nat} {st : List Value} {f : pz_F} {Q : Option Value → pz_F → Prop} {v1 : Value} {x : Nat} : pz_R dA d 29 96 [.ref x, v1] st f Q = pz_R dA d 29 97 [.ref x, v1] (.ref x :: st) f Q := pz_go (pz_so d29_96 rfl)
theorem d29_97 : decode (pz_b 29) 97 = .ok (.aload_n 1, 1) := by decide +kernel
theorem q29_97 {dA : Nat → ClassId} {d : Nat} {st : List Value} {f : pz_F} {Q : Option Value → pz_F → Prop} {v0 : Value} {x : Nat} : pz_R dA d 29 97 [v0, .ref x] st f Q = pz_R dA d 29 98 [v0, .ref x] (.ref x :: st) f Q := pz_go (pz_so d29_97 rfl)
theorem q29_97n {dA : Nat → ClassId} {d : Nat} {st : List Value} {f : pz_F} {Q : Option Value → pz_F → Prop} {v0 : Value} : pz_R dA d 29 97 [v0, .null] st f Q = pz_R dA d 29 98 [v0, .null] (.null :: st) f Q := pz_go (pz_so d29_97 rfl)
theorem d29_98 : decode (pz_b 29) 98 = .ok (.invokevirtual 238, 3) := by decide +kernel
theorem q29_98 {dA : Nat → ClassId} {d : Nat} {st : List Value} {f : pz_F} {Q : Option Value → pz_F → Prop} {v0 v1 : Value} {c0 : Nat} {b : Nat} (hr : st.length ≤ 4) : pz_R dA (d + 1) 29 98 [v0, v1] (.ref c0 :: .ref b :: st) f Q = pz_o (pz_gu f b 0) (fun _ => pz_C dA d 32 [.ref b, .ref c0] f (fun r f' => pz_R dA (d + 1) 29 101 [v0, v1] (r.toList ++ st) f' Q)) := pz_gcv (As := [.ref c0]) d29_98 rfl rfl rfl hr
theorem d29_101 : decode (pz_b 29) 101 = .ok (.goto 16, 3) := by decide +kernel
theorem q29_101 {dA : Nat → ClassId} {d : Nat} {st : List Value} {f : pz_F} {Q : Option Value → pz_F → Prop} {v0 v1 : Value} : pz_R dA d 29 101 [v0, v1] st f Q = pz_R dA d 29 117 [v0, v1] st f Q := pz_go (pz_so d29_101 rfl)
theorem d29_104 : decode (pz_b 29) 104 = .ok (.aload_n 0, 1) := by decide +kernel
theorem q29_104 {dA : Nat → ClassId} {d : Nat} {st : List Value} {f : pz_F} {Q : Option Value → pz_F → Prop} {v1 : Value} {x : Nat} : pz_R dA d 29 104 [.ref x, v1] st f Q = pz_R dA d 29 105 [.ref x, v1] (.ref x :: st) f Q := pz_go (pz_so d29_104 rfl)
theorem d29_105 : decode (pz_b 29) 105 = .ok (.aload_n 1, 1) := by decide +kernel
theorem q29_105 {dA : Nat → ClassId} {d : Nat} {st : List Value} {f : pz_F} {Q : Option Value → pz_F → Prop} {v0 : Value} {x : Nat} : pz_R dA d 29 105 [v0, .ref x] st f Q = pz_R dA d 29 106 [v0, .ref x] (.ref x :: st) f Q := pz_go (pz_so d29_105 rfl)
theorem q29_105n {dA : Nat → ClassId} {d : Nat} {st : List Value} {f : pz_F} {Q : Option Value → pz_F → Prop} {v0 : Value} : pz_R dA d 29 105 [v0, .null] st f Q = pz_R dA d 29 106 [v0, .null] (.null :: st) f Q := pz_go (pz_so d29_105 rfl)
theorem d29_106 : decode (pz_b 29) 106 = .ok (.invokevirtual 241, 3) := by decide +kernel
theorem q29_106 {dA : Nat → ClassId} {d : Nat} {st : List Value} {f : pz_F} {Q : Option Value → pz_F → Prop} {v0 v1 : Value} {c0 : Nat} {b : Nat} (hr : st.length ≤ 4) : pz_R dA (d + 1) 29 106 [v0, v1] (.ref c0 :: .ref b :: st) f Q = pz_o (pz_gu f b 0) (fun _ => pz_C dA d 33 [.ref b, .ref c0] f (fun r f' => pz_R dA (d + 1) 29 109 [v0, v1] (r.toList ++ st) f' Q)) := pz_gcv (As := [.ref c0]) d29_106 rfl rfl rfl hr
theorem d29_109 : decode (pz_b 29) 109 = .ok (.goto 8, 3) := by decide +kernel
theorem q29_109 {dA : Nat → ClassId} {d : Nat} {st : List Value} {f : pz_F} {Q : Option Value → pz_F → Prop} {v0 v1 : Value} : pz_R dA d 29 109 [v0, v1] st f Q = pz_R dA d 29 117 [v0, v1] st f Q := pz_go (pz_so d29_109 rfl)
theorem d29_112 : decode (pz_b 29) 112 = .ok (.aload_n 0, 1) := by decide +kernel
theorem q29_112 {dA : Nat → ClassId} {d : Nat} {st : List Value} {f : pz_F} {Q : Option Value → pz_F → Prop} {v1 : Value} {x : Nat} : pz_R dA d 29 112 [.ref x, v1] st f Q = pz_R dA d 29 113 [.ref x, v1] (.ref x :: st) f Q := pz_go (pz_so d29_112 rfl)
theorem d29_113 : decode (pz_b 29) 113 = .ok (.aload_n 1, 1) := by decide +kernel
theorem q29_113 {dA : Nat → ClassId} {d : Nat} {st : List Value} {f : pz_F} {Q : Option Value → pz_F → Prop} {v0 : Value} {x : Nat} : pz_R dA d 29 113 [v0, .ref x] st f Q = pz_R dA d 29 114 [v0, .ref x] (.ref x :: st) f Q := pz_go (pz_so d29_113 rfl)
theorem q29_113n {dA : Nat → ClassId} {d : Nat} {st : List Value} {f : pz_F} {Q : Option Value → pz_F → Prop} {v0 : Value} : pz_R dA d 29 113 [v0, .null] st f Q = pz_R dA d 29 114 [v0, .null] (.null :: st) f Q := pz_go (pz_so d29_113 rfl)
theorem d29_114 : decode (pz_b 29) 114 = .ok (.invokevirtual 244, 3) := by decide +kernel
theorem q29_114 {dA : Nat → ClassId} {d : Nat} {st : List Value} {f : pz_F} {Q : Option Value → pz_F → Prop} {v0 v1 : Value} {c0 : Nat} {b : Nat} (hr : st.length ≤ 4) : pz_R dA (d + 1) 29 114 [v0, v1] (.ref c0 :: .ref b :: st) f Q = pz_o (pz_gu f b 0) (fun _ => pz_C dA d 34 [.ref b, .ref c0] f (fun r f' => pz_R dA (d + 1) 29 117 [v0, v1] (r.toList ++ st) f' Q)) := pz_gcv (As := [.ref c0]) d29_114 rfl rfl rfl hr
theorem d29_117 : decode (pz_b 29) 117 = .ok (.return_, 1) := by decide +kernel
theorem q29_117 {dA : Nat → ClassId} {d : Nat} {st : List Value} {f : pz_F} {Q : Option Value → pz_F → Prop} {v0 v1 : Value} : pz_R dA d 29 117 [v0, v1] [] f Q = Q none f := pz_gr (pz_so d29_117 rfl)
/-! P_arriveAsk (LLeasePair$Message;)V -/
theorem e30 {dA : Nat → ClassId} {d : Nat} {f : pz_F} {Q : Option Value → pz_F → Prop} {a0 : Nat} {a1 : Nat} : pz_C dA d 30 [.ref a0, .ref a1] f Q = pz_R dA d 30 0 [.ref a0, .ref a1, .retAddr 0, .retAddr 0, .retAddr 0] [] f Q := rfl
theorem d30_0 : decode (pz_b 30) 0 = .ok (.aload_n 0, 1) := by decide +kernel
theorem q30_0 {dA : Nat → ClassId} {d : Nat} {st : List Value} {f : pz_F} {Q : Option Value → pz_F → Prop} {v1 v2 v3 v4 : Value} {x : Nat} : pz_R dA d 30 0 [.ref x, v1, v2, v3, v4] st f Q = pz_R dA d 30 1 [.ref x, v1, v2, v3, v4] (.ref x :: st) f Q := pz_go (pz_so d30_0 rfl)
theorem d30_1 : decode (pz_b 30) 1 = .ok (.getfield 19, 3) := by decide +kernel
theorem q30_1 {dA : Nat → ClassId} {d : Nat} {st : List Value} {f : pz_F} {Q : Option Value → pz_F → Prop} {v0 v1 v2 v3 v4 : Value} {a : Nat} : pz_R dA d 30 1 [v0, v1, v2, v3, v4] (.ref a :: st) f Q = pz_o (pz_gf f a 0 2) (fun v => pz_R dA d 30 4 [v0, v1, v2, v3, v4] (v :: st) f Q) := pz_gg d30_1 rfl
theorem d30_4 : decode (pz_b 30) 4 = .ok (.aload_n 1, 1) := by decide +kernel
theorem q30_4 {dA : Nat → ClassId} {d : Nat} {st : List Value} {f : pz_F} {Q : Option Value → pz_F → Prop} {v0 v2 v3 v4 : Value} {x : Nat} : pz_R dA d 30 4 [v0, .ref x, v2, v3, v4] st f Q = pz_R dA d 30 5 [v0, .ref x, v2, v3, v4] (.ref x :: st) f Q := pz_go (pz_so d30_4 rfl)
theorem q30_4n {dA : Nat → ClassId} {d : Nat} {st : List Value} {f : pz_F} {Q : Option Value → pz_F → Prop} {v0 v2 v3 v4 : Value} : pz_R dA d 30 4 [v0, .null, v2, v3, v4] st f Q = pz_R dA d 30 5 [v0, .null, v2, v3, v4] (.null :: st) f Q := pz_go (pz_so d30_4 rfl)
theorem d30_5 : decode (pz_b 30) 5 = .ok (.getfield 212, 3) := by decide +kernel
theorem q30_5 {dA : Nat → ClassId} {d : Nat} {st : List Value} {f : pz_F} {Q : Option Value → pz_F → Prop} {v0 v1 v2 v3 v4 : Value} {a : Nat} : pz_R dA d 30 5 [v0, v1, v2, v3, v4] (.ref a :: st) f Q = pz_o (pz_gf f a 5 2) (fun v => pz_R dA d 30 8 [v0, v1, v2, v3, v4] (v :: st) f Q) := pz_gg d30_5 rfl
theorem d30_8 : decode (pz_b 30) 8 = .ok (.aaload, 1) := by decide +kernel
theorem q30_8 {dA : Nat → ClassId} {d : Nat} {st : List Value} {f : pz_F} {Q : Option Value → pz_F → Prop} {v0 v1 v2 v3 v4 : Value} {i : Int32} {a : Nat} : pz_R dA d 30 8 [v0, v1, v2, v3, v4] (.int i :: .ref a :: st) f Q = pz_o (pz_rl dA f a i) (fun v => pz_R dA d 30 9 [v0, v1, v2, v3, v4] (v :: st) f Q) := pz_grl d30_8
theorem d30_9 : decode (pz_b 30) 9 = .ok (.astore_n 2, 1) := by decide +kernel
theorem q30_9 {dA : Nat → ClassId} {d : Nat} {st : List Value} {f : pz_F} {Q : Option Value → pz_F → Prop} {v0 v1 v2 v3 v4 : Value} {x : Nat} : pz_R dA d 30 9 [v0, v1, v2, v3, v4] (.ref x :: st) f Q = pz_R dA d 30 10 [v0, v1, .ref x, v3, v4] st f Q := pz_go (pz_so d30_9 rfl)
theorem q30_9n {dA : Nat → ClassId} {d : Nat} {st : List Value} {f : pz_F} {Q : Option Value → pz_F → Prop} {v0 v1 v2 v3 v4 : Value} : pz_R dA d 30 9 [v0, v1, v2, v3, v4] (.null :: st) f Q = pz_R dA d 30 10 [v0, v1, .null, v3, v4] st f Q := pz_go (pz_so d30_9 rfl)
theorem d30_10 : decode (pz_b 30) 10 = .ok (.aload_n 2, 1) := by decide +kernel
theorem q30_10 {dA : Nat → ClassId} {d : Nat} {st : List Value} {f : pz_F} {Q : Option Value → pz_F → Prop} {v0 v1 v3 v4 : Value} {x : Nat} : pz_R dA d 30 10 [v0, v1, .ref x, v3, v4] st f Q = pz_R dA d 30 11 [v0, v1, .ref x, v3, v4] (.ref x :: st) f Q := pz_go (pz_so d30_10 rfl)
theorem q30_10n {dA : Nat → ClassId} {d : Nat} {st : List Value} {f : pz_F} {Q : Option Value → pz_F → Prop} {v0 v1 v3 v4 : Value} : pz_R dA d 30 10 [v0, v1, .null, v3, v4] st f Q = pz_R dA d 30 11 [v0, v1, .null, v3, v4] (.null :: st) f Q := pz_go (pz_so d30_10 rfl)
theorem d30_11 : decode (pz_b 30) 11 = .ok (.invokevirtual 151, 3) := by decide +kernel
theorem q30_11 {dA : Nat → ClassId} {d : Nat} {st : List Value} {f : pz_F} {Q : Option Value → pz_F → Prop} {v0 v1 v2 v3 v4 : Value} {b : Nat} (hr : st.length ≤ 4) : pz_R dA (d + 1) 30 11 [v0, v1, v2, v3, v4] (.ref b :: st) f Q = pz_o (pz_gu f b 1) (fun _ => pz_C dA d 36 [.ref b] f (fun r f' => pz_R dA (d + 1) 30 14 [v0, v1, v2, v3, v4] (r.toList ++ st) f' Q)) := pz_gcv (As := []) d30_11 rfl rfl rfl hr
theorem d30_14 : decode (pz_b 30) 14 = .ok (.ifCond .ne 4, 3) := by decide +kernel
theorem q30_14 {dA : Nat → ClassId} {d : Nat} {st : List Value} {f : pz_F} {Q : Option Value → pz_F → Prop} {v0 v1 v2 v3 v4 : Value} {x : Int32} : pz_R dA d 30 14 [v0, v1, v2, v3, v4] (.int x :: st) f Q = (if x = 0 then pz_R dA d 30 17 [v0, v1, v2, v3, v4] st f Q else pz_R dA d 30 18 [v0, v1, v2, v3, v4] st f Q) := pz_gj1 .ne d30_14 rfl
theorem d30_17 : decode (pz_b 30) 17 = .ok (.return_, 1) := by decide +kernel
theorem q30_17 {dA : Nat → ClassId} {d : Nat} {st : List Value} {f : pz_F} {Q : Option Value → pz_F → Prop} {v0 v1 v2 v3 v4 : Value} : pz_R dA d 30 17 [v0, v1, v2, v3, v4] [] f Q = Q none f := pz_gr (pz_so d30_17 rfl)
theorem d30_18 : decode (pz_b 30) 18 = .ok (.aload_n 2, 1) := by decide +kernel
theorem q30_18 {dA : Nat → ClassId} {d : Nat} {st : List Value} {f : pz_F} {Q : Option Value → pz_F → Prop} {v0 v1 v3 v4 : Value} {x : Nat} : pz_R dA d 30 18 [v0, v1, .ref x, v3, v4] st f Q = pz_R dA d 30 19 [v0, v1, .ref x, v3, v4] (.ref x :: st) f Q := pz_go (pz_so d30_18 rfl)
theorem q30_18n {dA : Nat → ClassId} {d : Nat} {st : List Value} {f : pz_F} {Q : Option Value → pz_F → Prop} {v0 v1 v3 v4 : Value} : pz_R dA d 30 18 [v0, v1, .null, v3, v4] st f Q = pz_R dA d 30 19 [v0, v1, .null, v3, v4] (.null :: st) f Q := pz_go (pz_so d30_18 rfl)
theorem d30_19 : decode (pz_b 30) 19 = .ok (.aload_n 1, 1) := by decide +kernel
theorem q30_19 {dA : Nat → ClassId} {d : Nat} {st : List Value} {f : pz_F} {Q : Option Value → pz_F → Prop} {v0 v2 v3 v4 : Value} {x : Nat} : pz_R dA d 30 19 [v0, .ref x, v2, v3, v4] st f Q = pz_R dA d 30 20 [v0, .ref x, v2, v3, v4] (.ref x :: st) f Q := pz_go (pz_so d30_19 rfl)
theorem q30_19n {dA : Nat → ClassId} {d : Nat} {st : List Value} {f : pz_F} {Q : Option Value → pz_F → Prop} {v0 v2 v3 v4 : Value} : pz_R dA d 30 19 [v0, .null, v2, v3, v4] st f Q = pz_R dA d 30 20 [v0, .null, v2, v3, v4] (.null :: st) f Q := pz_go (pz_so d30_19 rfl)
theorem d30_20 : decode (pz_b 30) 20 = .ok (.getfield 215, 3) := by decide +kernel
theorem q30_20 {dA : Nat → ClassId} {d : Nat} {st : List Value} {f : pz_F} {Q : Option Value → pz_F → Prop} {v0 v1 v2 v3 v4 : Value} {a : Nat} : pz_R dA d 30 20 [v0, v1, v2, v3, v4] (.ref a :: st) f Q = pz_o (pz_gf f a 5 1) (fun v => pz_R dA d 30 23 [v0, v1, v2, v3, v4] (v :: st) f Q) := pz_gg d30_20 rfl
theorem d30_23 : decode (pz_b 30) 23 = .ok (.aload_n 0, 1) := by decide +kernel
theorem q30_23 {dA : Nat → ClassId} {d : Nat} {st : List Value} {f : pz_F} {Q : Option Value → pz_F → Prop} {v1 v2 v3 v4 : Value} {x : Nat} : pz_R dA d 30 23 [.ref x, v1, v2, v3, v4] st f Q = pz_R dA d 30 24 [.ref x, v1, v2, v3, v4] (.ref x :: st) f Q := pz_go (pz_so d30_23 rfl)
theorem d30_24 : decode (pz_b 30) 24 = .ok (.getfield 7, 3) := by decide +kernel
theorem q30_24 {dA : Nat → ClassId} {d : Nat} {st : List Value} {f : pz_F} {Q : Option Value → pz_F → Prop} {v0 v1 v2 v3 v4 : Value} {a : Nat} : pz_R dA d 30 24 [v0, v1, v2, v3, v4] (.ref a :: st) f Q = pz_o (pz_gf f a 0 0) (fun v => pz_R dA d 30 27 [v0, v1, v2, v3, v4] (v :: st) f Q) := pz_gg d30_24 rfl
theorem d30_27 : decode (pz_b 30) 27 = .ok (.invokevirtual 247, 3) := by decide +kernel
theorem q30_27 {dA : Nat → ClassId} {d : Nat} {st : List Value} {f : pz_F} {Q : Option Value → pz_F → Prop} {v0 v1 v2 v3 v4 : Value} {c0 : Int32} {c1 : Int32} {b : Nat} (hr : st.length ≤ 4) : pz_R dA (d + 1) 30 27 [v0, v1, v2, v3, v4] (.int c1 :: .int c0 :: .ref b :: st) f Q = pz_o (pz_gu f b 1) (fun _ => pz_C dA d 44 [.ref b, .int c0, .int c1] f (fun r f' => pz_R dA (d + 1) 30 30 [v0, v1, v2, v3, v4] (r.toList ++ st) f' Q)) := pz_gcv (As := [.int c0, .int c1]) d30_27 rfl rfl rfl hr
theorem d30_30 : decode (pz_b 30) 30 = .ok (.istore_n 3, 1) := by decide +kernel
theorem q30_30 {dA : Nat → ClassId} {d : Nat} {st : List Value} {f : pz_F} {Q : Option Value → pz_F → Prop} {v0 v1 v2 v3 v4 : Value} {x : Int32} : pz_R dA d 30 30 [v0, v1, v2, v3, v4] (.int x :: st) f Q = pz_R dA d 30 31 [v0, v1, v2, .int x, v4] st f Q := pz_go (pz_so d30_30 rfl)
theorem d30_31 : decode (pz_b 30) 31 = .ok (.iload_n 3, 1) := by decide +kernel
theorem q30_31 {dA : Nat → ClassId} {d : Nat} {st : List Value} {f : pz_F} {Q : Option Value → pz_F → Prop} {v0 v1 v2 v4 : Value} {x : Int32} : pz_R dA d 30 31 [v0, v1, v2, .int x, v4] st f Q = pz_R dA d 30 32 [v0, v1, v2, .int x, v4] (.int x :: st) f Q := pz_go (pz_so d30_31 rfl)
theorem d30_32 : decode (pz_b 30) 32 = .ok (.iconst (-1), 1) := by decide +kernel
theorem q30_32 {dA : Nat → ClassId} {d : Nat} {st : List Value} {f : pz_F} {Q : Option Value → pz_F → Prop} {v0 v1 v2 v3 v4 : Value} : pz_R dA d 30 32 [v0, v1, v2, v3, v4] st f Q = pz_R dA d 30 33 [v0, v1, v2, v3, v4] (.int (-1) :: st) f Q := pz_go (pz_so d30_32 rfl)
theorem d30_33 : decode (pz_b 30) 33 = .ok (.if_icmp .ne 21, 3) := by decide +kernel
theorem q30_33 {dA : Nat → ClassId} {d : Nat} {st : List Value} {f : pz_F} {Q : Option Value → pz_F → Prop} {v0 v1 v2 v3 v4 : Value} {x y : Int32} : pz_R dA d 30 33 [v0, v1, v2, v3, v4] (.int y :: .int x :: st) f Q = (if x = y then pz_R dA d 30 36 [v0, v1, v2, v3, v4] st f Q else pz_R dA d 30 54 [v0, v1, v2, v3, v4] st f Q) := pz_gjn .ne d30_33 rfl
theorem d30_36 : decode (pz_b 30) 36 = .ok (.aload_n 0, 1) := by decide +kernel
theorem q30_36 {dA : Nat → ClassId} {d : Nat} {st : List Value} {f : pz_F} {Q : Option Value → pz_F → Prop} {v1 v2 v3 v4 : Value} {x : Nat} : pz_R dA d 30 36 [.ref x, v1, v2, v3, v4] st f Q = pz_R dA d 30 37 [.ref x, v1, v2, v3, v4] (.ref x :: st) f Q := pz_go (pz_so d30_36 rfl)
theorem d30_37 : decode (pz_b 30) 37 = .ok (.iconst 2, 1) := by decide +kernel
theorem q30_37 {dA : Nat → ClassId} {d : Nat} {st : List Value} {f : pz_F} {Q : Option Value → pz_F → Prop} {v0 v1 v2 v3 v4 : Value} : pz_R dA d 30 37 [v0, v1, v2, v3, v4] st f Q = pz_R dA d 30 38 [v0, v1, v2, v3, v4] (.int 2 :: st) f Q := pz_go (pz_so d30_37 rfl)
theorem d30_38 : decode (pz_b 30) 38 = .ok (.aload_n 1, 1) := by decide +kernel
theorem q30_38 {dA : Nat → ClassId} {d : Nat} {st : List Value} {f : pz_F} {Q : Option Value → pz_F → Prop} {v0 v2 v3 v4 : Value} {x : Nat} : pz_R dA d 30 38 [v0, .ref x, v2, v3, v4] st f Q = pz_R dA d 30 39 [v0, .ref x, v2, v3, v4] (.ref x :: st) f Q := pz_go (pz_so d30_38 rfl)
theorem q30_38n {dA : Nat → ClassId} {d : Nat} {st : List Value} {f : pz_F} {Q : Option Value → pz_F → Prop} {v0 v2 v3 v4 : Value} : pz_R dA d 30 38 [v0, .null, v2, v3, v4] st f Q = pz_R dA d 30 39 [v0, .null, v2, v3, v4] (.null :: st) f Q := pz_go (pz_so d30_38 rfl)
theorem d30_39 : decode (pz_b 30) 39 = .ok (.getfield 212, 3) := by decide +kernel
theorem q30_39 {dA : Nat → ClassId} {d : Nat} {st : List Value} {f : pz_F} {Q : Option Value → pz_F → Prop} {v0 v1 v2 v3 v4 : Value} {a : Nat} : pz_R dA d 30 39 [v0, v1, v2, v3, v4] (.ref a :: st) f Q = pz_o (pz_gf f a 5 2) (fun v => pz_R dA d 30 42 [v0, v1, v2, v3, v4] (v :: st) f Q) := pz_gg d30_39 rfl
theorem d30_42 : decode (pz_b 30) 42 = .ok (.aload_n 1, 1) := by decide +kernel
theorem q30_42 {dA : Nat → ClassId} {d : Nat} {st : List Value} {f : pz_F} {Q : Option Value → pz_F → Prop} {v0 v2 v3 v4 : Value} {x : Nat} : pz_R dA d 30 42 [v0, .ref x, v2, v3, v4] st f Q = pz_R dA d 30 43 [v0, .ref x, v2, v3, v4] (.ref x :: st) f Q := pz_go (pz_so d30_42 rfl)
theorem q30_42n {dA : Nat → ClassId} {d : Nat} {st : List Value} {f : pz_F} {Q : Option Value → pz_F → Prop} {v0 v2 v3 v4 : Value} : pz_R dA d 30 42 [v0, .null, v2, v3, v4] st f Q = pz_R dA d 30 43 [v0, .null, v2, v3, v4] (.null :: st) f Q := pz_go (pz_so d30_42 rfl)
theorem d30_43 : decode (pz_b 30) 43 = .ok (.getfield 215, 3) := by decide +kernel
theorem q30_43 {dA : Nat → ClassId} {d : Nat} {st : List Value} {f : pz_F} {Q : Option Value → pz_F → Prop} {v0 v1 v2 v3 v4 : Value} {a : Nat} : pz_R dA d 30 43 [v0, v1, v2, v3, v4] (.ref a :: st) f Q = pz_o (pz_gf f a 5 1) (fun v => pz_R dA d 30 46 [v0, v1, v2, v3, v4] (v :: st) f Q) := pz_gg d30_43 rfl
theorem d30_46 : decode (pz_b 30) 46 = .ok (.aload_n 1, 1) := by decide +kernel
theorem q30_46 {dA : Nat → ClassId} {d : Nat} {st : List Value} {f : pz_F} {Q : Option Value → pz_F → Prop} {v0 v2 v3 v4 : Value} {x : Nat} : pz_R dA d 30 46 [v0, .ref x, v2, v3, v4] st f Q = pz_R dA d 30 47 [v0, .ref x, v2, v3, v4] (.ref x :: st) f Q := pz_go (pz_so d30_46 rfl)
theorem q30_46n {dA : Nat → ClassId} {d : Nat} {st : List Value} {f : pz_F} {Q : Option Value → pz_F → Prop} {v0 v2 v3 v4 : Value} : pz_R dA d 30 46 [v0, .null, v2, v3, v4] st f Q = pz_R dA d 30 47 [v0, .null, v2, v3, v4] (.null :: st) f Q := pz_go (pz_so d30_46 rfl)
theorem d30_47 : decode (pz_b 30) 47 = .ok (.getfield 211, 3) := by decide +kernel
theorem q30_47 {dA : Nat → ClassId} {d : Nat} {st : List Value} {f : pz_F} {Q : Option Value → pz_F → Prop} {v0 v1 v2 v3 v4 : Value} {a : Nat} : pz_R dA d 30 47 [v0, v1, v2, v3, v4] (.ref a :: st) f Q = pz_o (pz_gf f a 5 4) (fun v => pz_R dA d 30 50 [v0, v1, v2, v3, v4] (v :: st) f Q) := pz_gg d30_47 rfl
theorem d30_50 : decode (pz_b 30) 50 = .ok (.invokevirtual 69, 3) := by decide +kernel
theorem q30_50 {dA : Nat → ClassId} {d : Nat} {st : List Value} {f : pz_F} {Q : Option Value → pz_F → Prop} {v0 v1 v2 v3 v4 : Value} {c0 : Int32} {c1 : Int32} {c2 : Int32} {c3 : Int32} {b : Nat} (hr : st.length ≤ 4) : pz_R dA (d + 1) 30 50 [v0, v1, v2, v3, v4] (.int c3 :: .int c2 :: .int c1 :: .int c0 :: .ref b :: st) f Q = pz_o (pz_gu f b 0) (fun _ => pz_C dA d 25 [.ref b, .int c0, .int c1, .int c2, .int c3] f (fun r f' => pz_R dA (d + 1) 30 53 [v0, v1, v2, v3, v4] (r.toList ++ st) f' Q)) := pz_gcv (As := [.int c0, .int c1, .int c2, .int c3]) d30_50 rfl rfl rfl hr
theorem d30_53 : decode (pz_b 30) 53 = .ok (.return_, 1) := by decide +kernel
theorem q30_53 {dA : Nat → ClassId} {d : Nat} {st : List Value} {f : pz_F} {Q : Option Value → pz_F → Prop} {v0 v1 v2 v3 v4 : Value} : pz_R dA d 30 53 [v0, v1, v2, v3, v4] [] f Q = Q none f := pz_gr (pz_so d30_53 rfl)
theorem d30_54 : decode (pz_b 30) 54 = .ok (.aload_n 2, 1) := by decide +kernel
theorem q30_54 {dA : Nat → ClassId} {d : Nat} {st : List Value} {f : pz_F} {Q : Option Value → pz_F → Prop} {v0 v1 v3 v4 : Value} {x : Nat} : pz_R dA d 30 54 [v0, v1, .ref x, v3, v4] st f Q = pz_R dA d 30 55 [v0, v1, .ref x, v3, v4] (.ref x :: st) f Q := pz_go (pz_so d30_54 rfl)
theorem q30_54n {dA : Nat → ClassId} {d : Nat} {st : List Value} {f : pz_F} {Q : Option Value → pz_F → Prop} {v0 v1 v3 v4 : Value} : pz_R dA d 30 54 [v0, v1, .null, v3, v4] st f Q = pz_R dA d 30 55 [v0, v1, .null, v3, v4] (.null :: st) f Q := pz_go (pz_so d30_54 rfl)
theorem d30_55 : decode (pz_b 30) 55 = .ok (.getfield 121, 3) := by decide +kernel
theorem q30_55 {dA : Nat → ClassId} {d : Nat} {st : List Value} {f : pz_F} {Q : Option Value → pz_F → Prop} {v0 v1 v2 v3 v4 : Value} {a : Nat} : pz_R dA d 30 55 [v0, v1, v2, v3, v4] (.ref a :: st) f Q = pz_o (pz_gf f a 1 1) (fun v => pz_R dA d 30 58 [v0, v1, v2, v3, v4] (v :: st) f Q) := pz_gg d30_55 rfl
theorem d30_58 : decode (pz_b 30) 58 = .ok (.iload_n 3, 1) := by decide +kernel
theorem q30_58 {dA : Nat → ClassId} {d : Nat} {st : List Value} {f : pz_F} {Q : Option Value → pz_F → Prop} {v0 v1 v2 v4 : Value} {x : Int32} : pz_R dA d 30 58 [v0, v1, v2, .int x, v4] st f Q = pz_R dA d 30 59 [v0, v1, v2, .int x, v4] (.int x :: st) f Q := pz_go (pz_so d30_58 rfl)
theorem d30_59 : decode (pz_b 30) 59 = .ok (.aaload, 1) := by decide +kernel
theorem q30_59 {dA : Nat → ClassId} {d : Nat} {st : List Value} {f : pz_F} {Q : Option Value → pz_F → Prop} {v0 v1 v2 v3 v4 : Value} {i : Int32} {a : Nat} : pz_R dA d 30 59 [v0, v1, v2, v3, v4] (.int i :: .ref a :: st) f Q = pz_o (pz_rl dA f a i) (fun v => pz_R dA d 30 60 [v0, v1, v2, v3, v4] (v :: st) f Q) := pz_grl d30_59
theorem d30_60 : decode (pz_b 30) 60 = .ok (.astore 4, 2) := by decide +kernel
theorem q30_60 {dA : Nat → ClassId} {d : Nat} {st : List Value} {f : pz_F} {Q : Option Value → pz_F → Prop} {v0 v1 v2 v3 v4 : Value} {x : Nat} : pz_R dA d 30 60 [v0, v1, v2, v3, v4] (.ref x :: st) f Q = pz_R dA d 30 62 [v0, v1, v2, v3, .ref x] st f Q := pz_go (pz_so d30_60 rfl)
theorem q30_60n {dA : Nat → ClassId} {d : Nat} {st : List Value} {f : pz_F} {Q : Option Value → pz_F → Prop} {v0 v1 v2 v3 v4 : Value} : pz_R dA d 30 60 [v0, v1, v2, v3, v4] (.null :: st) f Q = pz_R dA d 30 62 [v0, v1, v2, v3, .null] st f Q := pz_go (pz_so d30_60 rfl)
theorem d30_62 : decode (pz_b 30) 62 = .ok (.aload 4, 2) := by decide +kernel
theorem q30_62 {dA : Nat → ClassId} {d : Nat} {st : List Value} {f : pz_F} {Q : Option Value → pz_F → Prop} {v0 v1 v2 v3 : Value} {x : Nat} : pz_R dA d 30 62 [v0, v1, v2, v3, .ref x] st f Q = pz_R dA d 30 64 [v0, v1, v2, v3, .ref x] (.ref x :: st) f Q := pz_go (pz_so d30_62 rfl)
theorem q30_62n {dA : Nat → ClassId} {d : Nat} {st : List Value} {f : pz_F} {Q : Option Value → pz_F → Prop} {v0 v1 v2 v3 : Value} : pz_R dA d 30 62 [v0, v1, v2, v3, .null] st f Q = pz_R dA d 30 64 [v0, v1, v2, v3, .null] (.null :: st) f Q := pz_go (pz_so d30_62 rfl)
theorem d30_64 : decode (pz_b 30) 64 = .ok (.aload_n 1, 1) := by decide +kernel
theorem q30_64 {dA : Nat → ClassId} {d : Nat} {st : List Value} {f : pz_F} {Q : Option Value → pz_F → Prop} {v0 v2 v3 v4 : Value} {x : Nat} : pz_R dA d 30 64 [v0, .ref x, v2, v3, v4] st f Q = pz_R dA d 30 65 [v0, .ref x, v2, v3, v4] (.ref x :: st) f Q := pz_go (pz_so d30_64 rfl)
theorem q30_64n {dA : Nat → ClassId} {d : Nat} {st : List Value} {f : pz_F} {Q : Option Value → pz_F → Prop} {v0 v2 v3 v4 : Value} : pz_R dA d 30 64 [v0, .null, v2, v3, v4] st f Q = pz_R dA d 30 65 [v0, .null, v2, v3, v4] (.null :: st) f Q := pz_go (pz_so d30_64 rfl)
theorem d30_65 : decode (pz_b 30) 65 = .ok (.getfield 215, 3) := by decide +kernel
theorem q30_65 {dA : Nat → ClassId} {d : Nat} {st : List Value} {f : pz_F} {Q : Option Value → pz_F → Prop} {v0 v1 v2 v3 v4 : Value} {a : Nat} : pz_R dA d 30 65 [v0, v1, v2, v3, v4] (.ref a :: st) f Q = pz_o (pz_gf f a 5 1) (fun v => pz_R dA d 30 68 [v0, v1, v2, v3, v4] (v :: st) f Q) := pz_gg d30_65 rfl
theorem d30_68 : decode (pz_b 30) 68 = .ok (.aload_n 0, 1) := by decide +kernel
theorem q30_68 {dA : Nat → ClassId} {d : Nat} {st : List Value} {f : pz_F} {Q : Option Value → pz_F → Prop} {v1 v2 v3 v4 : Value} {x : Nat} : pz_R dA d 30 68 [.ref x, v1, v2, v3, v4] st f Q = pz_R dA d 30 69 [.ref x, v1, v2, v3, v4] (.ref x :: st) f Q := pz_go (pz_so d30_68 rfl)
theorem d30_69 : decode (pz_b 30) 69 = .ok (.getfield 7, 3) := by decide +kernel
theorem q30_69 {dA : Nat → ClassId} {d : Nat} {st : List Value} {f : pz_F} {Q : Option Value → pz_F → Prop} {v0 v1 v2 v3 v4 : Value} {a : Nat} : pz_R dA d 30 69 [v0, v1, v2, v3, v4] (.ref a :: st) f Q = pz_o (pz_gf f a 0 0) (fun v => pz_R dA d 30 72 [v0, v1, v2, v3, v4] (v :: st) f Q) := pz_gg d30_69 rfl
theorem d30_72 : decode (pz_b 30) 72 = .ok (.aload_n 2, 1) := by decide +kernel
theorem q30_72 {dA : Nat → ClassId} {d : Nat} {st : List Value} {f : pz_F} {Q : Option Value → pz_F → Prop} {v0 v1 v3 v4 : Value} {x : Nat} : pz_R dA d 30 72 [v0, v1, .ref x, v3, v4] st f Q = pz_R dA d 30 73 [v0, v1, .ref x, v3, v4] (.ref x :: st) f Q := pz_go (pz_so d30_72 rfl)
theorem q30_72n {dA : Nat → ClassId} {d : Nat} {st : List Value} {f : pz_F} {Q : Option Value → pz_F → Prop} {v0 v1 v3 v4 : Value} : pz_R dA d 30 72 [v0, v1, .null, v3, v4] st f Q = pz_R dA d 30 73 [v0, v1, .null, v3, v4] (.null :: st) f Q := pz_go (pz_so d30_72 rfl)
theorem d30_73 : decode (pz_b 30) 73 = .ok (.getfield 46, 3) := by decide +kernel
theorem q30_73 {dA : Nat → ClassId} {d : Nat} {st : List Value} {f : pz_F} {Q : Option Value → pz_F → Prop} {v0 v1 v2 v3 v4 : Value} {a : Nat} : pz_R dA d 30 73 [v0, v1, v2, v3, v4] (.ref a :: st) f Q = pz_o (pz_gf f a 1 2) (fun v => pz_R dA d 30 76 [v0, v1, v2, v3, v4] (v :: st) f Q) := pz_gg d30_73 rfl
theorem d30_76 : decode (pz_b 30) 76 = .ok (.iconst 3, 1) := by decide +kernel
theorem q30_76 {dA : Nat → ClassId} {d : Nat} {st : List Value} {f : pz_F} {Q : Option Value → pz_F → Prop} {v0 v1 v2 v3 v4 : Value} : pz_R dA d 30 76 [v0, v1, v2, v3, v4] st f Q = pz_R dA d 30 77 [v0, v1, v2, v3, v4] (.int 3 :: st) f Q := pz_go (pz_so d30_76 rfl)
theorem d30_77 : decode (pz_b 30) 77 = .ok (.if_icmp .ne 7, 3) := by decide +kernel
theorem q30_77 {dA : Nat → ClassId} {d : Nat} {st : List Value} {f : pz_F} {Q : Option Value → pz_F → Prop} {v0 v1 v2 v3 v4 : Value} {x y : Int32} : pz_R dA d 30 77 [v0, v1, v2, v3, v4] (.int y :: .int x :: st) f Q = (if x = y then pz_R dA d 30 80 [v0, v1, v2, v3, v4] st f Q else pz_R dA d 30 84 [v0, v1, v2, v3, v4] st f Q) := pz_gjn .ne d30_77 rfl
theorem d30_80 : decode (pz_b 30) 80 = .ok (.iconst 1, 1) := by decide +kernel
theorem q30_80 {dA : Nat → ClassId} {d : Nat} {st : List Value} {f : pz_F} {Q : Option Value → pz_F → Prop} {v0 v1 v2 v3 v4 : Value} : pz_R dA d 30 80 [v0, v1, v2, v3, v4] st f Q = pz_R dA d 30 81 [v0, v1, v2, v3, v4] (.int 1 :: st) f Q := pz_go (pz_so d30_80 rfl)
theorem d30_81 : decode (pz_b 30) 81 = .ok (.goto 4, 3) := by decide +kernel
theorem q30_81 {dA : Nat → ClassId} {d : Nat} {st : List Value} {f : pz_F} {Q : Option Value → pz_F → Prop} {v0 v1 v2 v3 v4 : Value} : pz_R dA d 30 81 [v0, v1, v2, v3, v4] st f Q = pz_R dA d 30 85 [v0, v1, v2, v3, v4] st f Q := pz_go (pz_so d30_81 rfl)
theorem d30_84 : decode (pz_b 30) 84 = .ok (.iconst 0, 1) := by decide +kernel
theorem q30_84 {dA : Nat → ClassId} {d : Nat} {st : List Value} {f : pz_F} {Q : Option Value → pz_F → Prop} {v0 v1 v2 v3 v4 : Value} : pz_R dA d 30 84 [v0, v1, v2, v3, v4] st f Q = pz_R dA d 30 85 [v0, v1, v2, v3, v4] (.int 0 :: st) f Q := pz_go (pz_so d30_84 rfl)
theorem d30_85 : decode (pz_b 30) 85 = .ok (.invokevirtual 251, 3) := by decide +kernel
theorem q30_85 {dA : Nat → ClassId} {d : Nat} {st : List Value} {f : pz_F} {Q : Option Value → pz_F → Prop} {v0 v1 v2 v3 v4 : Value} {c0 : Int32} {c1 : Int32} {c2 : Int32} {b : Nat} (hr : st.length ≤ 4) : pz_R dA (d + 1) 30 85 [v0, v1, v2, v3, v4] (.int c2 :: .int c1 :: .int c0 :: .ref b :: st) f Q = pz_o (pz_gu f b 2) (fun _ => pz_C dA d 54 [.ref b, .int c0, .int c1, .int c2] f (fun r f' => pz_R dA (d + 1) 30 88 [v0, v1, v2, v3, v4] (r.toList ++ st) f' Q)) := pz_gcv (As := [.int c0, .int c1, .int c2]) d30_85 rfl rfl rfl hr
theorem d30_88 : decode (pz_b 30) 88 = .ok (.aload_n 0, 1) := by decide +kernel
theorem q30_88 {dA : Nat → ClassId} {d : Nat} {st : List Value} {f : pz_F} {Q : Option Value → pz_F → Prop} {v1 v2 v3 v4 : Value} {x : Nat} : pz_R dA d 30 88 [.ref x, v1, v2, v3, v4] st f Q = pz_R dA d 30 89 [.ref x, v1, v2, v3, v4] (.ref x :: st) f Q := pz_go (pz_so d30_88 rfl)
theorem d30_89 : decode (pz_b 30) 89 = .ok (.aload_n 1, 1) := by decide +kernel
theorem q30_89 {dA : Nat → ClassId} {d : Nat} {st : List Value} {f : pz_F} {Q : Option Value → pz_F → Prop} {v0 v2 v3 v4 : Value} {x : Nat} : pz_R dA d 30 89 [v0, .ref x, v2, v3, v4] st f Q = pz_R dA d 30 90 [v0, .ref x, v2, v3, v4] (.ref x :: st) f Q := pz_go (pz_so d30_89 rfl)
theorem q30_89n {dA : Nat → ClassId} {d : Nat} {st : List Value} {f : pz_F} {Q : Option Value → pz_F → Prop} {v0 v2 v3 v4 : Value} : pz_R dA d 30 89 [v0, .null, v2, v3, v4] st f Q = pz_R dA d 30 90 [v0, .null, v2, v3, v4] (.null :: st) f Q := pz_go (pz_so d30_89 rfl)
theorem d30_90 : decode (pz_b 30) 90 = .ok (.iload_n 3, 1) := by decide +kernel
theorem q30_90 {dA : Nat → ClassId} {d : Nat} {st : List Value} {f : pz_F} {Q : Option Value → pz_F → Prop} {v0 v1 v2 v4 : Value} {x : Int32} : pz_R dA d 30 90 [v0, v1, v2, .int x, v4] st f Q = pz_R dA d 30 91 [v0, v1, v2, .int x, v4] (.int x :: st) f Q := pz_go (pz_so d30_90 rfl)
theorem d30_91 : decode (pz_b 30) 91 = .ok (.aload 4, 2) := by decide +kernel
theorem q30_91 {dA : Nat → ClassId} {d : Nat} {st : List Value} {f : pz_F} {Q : Option Value → pz_F → Prop} {v0 v1 v2 v3 : Value} {x : Nat} : pz_R dA d 30 91 [v0, v1, v2, v3, .ref x] st f Q = pz_R dA d 30 93 [v0, v1, v2, v3, .ref x] (.ref x :: st) f Q := pz_go (pz_so d30_91 rfl)
theorem q30_91n {dA : Nat → ClassId} {d : Nat} {st : List Value} {f : pz_F} {Q : Option Value → pz_F → Prop} {v0 v1 v2 v3 : Value} : pz_R dA d 30 91 [v0, v1, v2, v3, .null] st f Q = pz_R dA d 30 93 [v0, v1, v2, v3, .null] (.null :: st) f Q := pz_go (pz_so d30_91 rfl)
theorem d30_93 : decode (pz_b 30) 93 = .ok (.getfield 186, 3) := by decide +kernel
theorem q30_93 {dA : Nat → ClassId} {d : Nat} {st : List Value} {f : pz_F} {Q : Option Value → pz_F → Prop} {v0 v1 v2 v3 v4 : Value} {a : Nat} : pz_R dA d 30 93 [v0, v1, v2, v3, v4] (.ref a :: st) f Q = pz_o (pz_gf f a 2 2) (fun v => pz_R dA d 30 96 [v0, v1, v2, v3, v4] (v :: st) f Q) := pz_gg d30_93 rfl
theorem d30_96 : decode (pz_b 30) 96 = .ok (.invokevirtual 255, 3) := by decide +kernel
theorem q30_96 {dA : Nat → ClassId} {d : Nat} {st : List Value} {f : pz_F} {Q : Option Value → pz_F → Prop} {v0 v1 v2 v3 v4 : Value} {c0 : Nat} {c1 : Int32} {c2 : Int32} {b : Nat} (hr : st.length ≤ 4) : pz_R dA (d + 1) 30 96 [v0, v1, v2, v3, v4] (.int c2 :: .int c1 :: .ref c0 :: .ref b :: st) f Q = pz_o (pz_gu f b 0) (fun _ => pz_C dA d 26 [.ref b, .ref c0, .int c1, .int c2] f (fun r f' => pz_R dA (d + 1) 30 99 [v0, v1, v2, v3, v4] (r.toList ++ st) f' Q)) := pz_gcv (As := [.ref c0, .int c1, .int c2]) d30_96 rfl rfl rfl hr
theorem d30_99 : decode (pz_b 30) 99 = .ok (.return_, 1) := by decide +kernel
theorem q30_99 {dA : Nat → ClassId} {d : Nat} {st : List Value} {f : pz_F} {Q : Option Value → pz_F → Prop} {v0 v1 v2 v3 v4 : Value} : pz_R dA d 30 99 [v0, v1, v2, v3, v4] [] f Q = Q none f := pz_gr (pz_so d30_99 rfl)
/-! P_arriveRelease (LLeasePair$Message;)V -/
theorem e31 {dA : Nat → ClassId} {d : Nat} {f : pz_F} {Q : Option Value → pz_F → Prop} {a0 : Nat} {a1 : Nat} : pz_C dA d 31 [.ref a0, .ref a1] f Q = pz_R dA d 31 0 [.ref a0, .ref a1, .retAddr 0, .retAddr 0] [] f Q := rfl
theorem d31_0 : decode (pz_b 31) 0 = .ok (.aload_n 0, 1) := by decide +kernel
theorem q31_0 {dA : Nat → ClassId} {d : Nat} {st : List Value} {f : pz_F} {Q : Option Value → pz_F → Prop} {v1 v2 v3 : Value} {x : Nat} : pz_R dA d 31 0 [.ref x, v1, v2, v3] st f Q = pz_R dA d 31 1 [.ref x, v1, v2, v3] (.ref x :: st) f Q := pz_go (pz_so d31_0 rfl)
theorem d31_1 : decode (pz_b 31) 1 = .ok (.getfield 19, 3) := by decide +kernel
theorem q31_1 {dA : Nat → ClassId} {d : Nat} {st : List Value} {f : pz_F} {Q : Option Value → pz_F → Prop} {v0 v1 v2 v3 : Value} {a : Nat} : pz_R dA d 31 1 [v0, v1, v2, v3] (.ref a :: st) f Q = pz_o (pz_gf f a 0 2) (fun v => pz_R dA d 31 4 [v0, v1, v2, v3] (v :: st) f Q) := pz_gg d31_1 rfl
theorem d31_4 : decode (pz_b 31) 4 = .ok (.aload_n 1, 1) := by decide +kernel
theorem q31_4 {dA : Nat → ClassId} {d : Nat} {st : List Value} {f : pz_F} {Q : Option Value → pz_F → Prop} {v0 v2 v3 : Value} {x : Nat} : pz_R dA d 31 4 [v0, .ref x, v2, v3] st f Q = pz_R dA d 31 5 [v0, .ref x, v2, v3] (.ref x :: st) f Q := pz_go (pz_so d31_4 rfl)
theorem q31_4n {dA : Nat → ClassId} {d : Nat} {st : List Value} {f : pz_F} {Q : Option Value → pz_F → Prop} {v0 v2 v3 : Value} : pz_R dA d 31 4 [v0, .null, v2, v3] st f Q = pz_R dA d 31 5 [v0, .null, v2, v3] (.null :: st) f Q := pz_go (pz_so d31_4 rfl)
theorem d31_5 : decode (pz_b 31) 5 = .ok (.getfield 212, 3) := by decide +kernel
theorem q31_5 {dA : Nat → ClassId} {d : Nat} {st : List Value} {f : pz_F} {Q : Option Value → pz_F → Prop} {v0 v1 v2 v3 : Value} {a : Nat} : pz_R dA d 31 5 [v0, v1, v2, v3] (.ref a :: st) f Q = pz_o (pz_gf f a 5 2) (fun v => pz_R dA d 31 8 [v0, v1, v2, v3] (v :: st) f Q) := pz_gg d31_5 rfl
theorem d31_8 : decode (pz_b 31) 8 = .ok (.aaload, 1) := by decide +kernel
theorem q31_8 {dA : Nat → ClassId} {d : Nat} {st : List Value} {f : pz_F} {Q : Option Value → pz_F → Prop} {v0 v1 v2 v3 : Value} {i : Int32} {a : Nat} : pz_R dA d 31 8 [v0, v1, v2, v3] (.int i :: .ref a :: st) f Q = pz_o (pz_rl dA f a i) (fun v => pz_R dA d 31 9 [v0, v1, v2, v3] (v :: st) f Q) := pz_grl d31_8
theorem d31_9 : decode (pz_b 31) 9 = .ok (.astore_n 2, 1) := by decide +kernel
theorem q31_9 {dA : Nat → ClassId} {d : Nat} {st : List Value} {f : pz_F} {Q : Option Value → pz_F → Prop} {v0 v1 v2 v3 : Value} {x : Nat} : pz_R dA d 31 9 [v0, v1, v2, v3] (.ref x :: st) f Q = pz_R dA d 31 10 [v0, v1, .ref x, v3] st f Q := pz_go (pz_so d31_9 rfl)
theorem q31_9n {dA : Nat → ClassId} {d : Nat} {st : List Value} {f : pz_F} {Q : Option Value → pz_F → Prop} {v0 v1 v2 v3 : Value} : pz_R dA d 31 9 [v0, v1, v2, v3] (.null :: st) f Q = pz_R dA d 31 10 [v0, v1, .null, v3] st f Q := pz_go (pz_so d31_9 rfl)
theorem d31_10 : decode (pz_b 31) 10 = .ok (.aload_n 2, 1) := by decide +kernel
theorem q31_10 {dA : Nat → ClassId} {d : Nat} {st : List Value} {f : pz_F} {Q : Option Value → pz_F → Prop} {v0 v1 v3 : Value} {x : Nat} : pz_R dA d 31 10 [v0, v1, .ref x, v3] st f Q = pz_R dA d 31 11 [v0, v1, .ref x, v3] (.ref x :: st) f Q := pz_go (pz_so d31_10 rfl)
theorem q31_10n {dA : Nat → ClassId} {d : Nat} {st : List Value} {f : pz_F} {Q : Option Value → pz_F → Prop} {v0 v1 v3 : Value} : pz_R dA d 31 10 [v0, v1, .null, v3] st f Q = pz_R dA d 31 11 [v0, v1, .null, v3] (.null :: st) f Q := pz_go (pz_so d31_10 rfl)
theorem d31_11 : decode (pz_b 31) 11 = .ok (.getfield 121, 3) := by decide +kernel
theorem q31_11 {dA : Nat → ClassId} {d : Nat} {st : List Value} {f : pz_F} {Q : Option Value → pz_F → Prop} {v0 v1 v2 v3 : Value} {a : Nat} : pz_R dA d 31 11 [v0, v1, v2, v3] (.ref a :: st) f Q = pz_o (pz_gf f a 1 1) (fun v => pz_R dA d 31 14 [v0, v1, v2, v3] (v :: st) f Q) := pz_gg d31_11 rfl
theorem d31_14 : decode (pz_b 31) 14 = .ok (.aload_n 1, 1) := by decide +kernel
theorem q31_14 {dA : Nat → ClassId} {d : Nat} {st : List Value} {f : pz_F} {Q : Option Value → pz_F → Prop} {v0 v2 v3 : Value} {x : Nat} : pz_R dA d 31 14 [v0, .ref x, v2, v3] st f Q = pz_R dA d 31 15 [v0, .ref x, v2, v3] (.ref x :: st) f Q := pz_go (pz_so d31_14 rfl)
theorem q31_14n {dA : Nat → ClassId} {d : Nat} {st : List Value} {f : pz_F} {Q : Option Value → pz_F → Prop} {v0 v2 v3 : Value} : pz_R dA d 31 14 [v0, .null, v2, v3] st f Q = pz_R dA d 31 15 [v0, .null, v2, v3] (.null :: st) f Q := pz_go (pz_so d31_14 rfl)
theorem d31_15 : decode (pz_b 31) 15 = .ok (.getfield 80, 3) := by decide +kernel
theorem q31_15 {dA : Nat → ClassId} {d : Nat} {st : List Value} {f : pz_F} {Q : Option Value → pz_F → Prop} {v0 v1 v2 v3 : Value} {a : Nat} : pz_R dA d 31 15 [v0, v1, v2, v3] (.ref a :: st) f Q = pz_o (pz_gf f a 5 5) (fun v => pz_R dA d 31 18 [v0, v1, v2, v3] (v :: st) f Q) := pz_gg d31_15 rfl
theorem d31_18 : decode (pz_b 31) 18 = .ok (.aaload, 1) := by decide +kernel
theorem q31_18 {dA : Nat → ClassId} {d : Nat} {st : List Value} {f : pz_F} {Q : Option Value → pz_F → Prop} {v0 v1 v2 v3 : Value} {i : Int32} {a : Nat} : pz_R dA d 31 18 [v0, v1, v2, v3] (.int i :: .ref a :: st) f Q = pz_o (pz_rl dA f a i) (fun v => pz_R dA d 31 19 [v0, v1, v2, v3] (v :: st) f Q) := pz_grl d31_18
theorem d31_19 : decode (pz_b 31) 19 = .ok (.astore_n 3, 1) := by decide +kernel
theorem q31_19 {dA : Nat → ClassId} {d : Nat} {st : List Value} {f : pz_F} {Q : Option Value → pz_F → Prop} {v0 v1 v2 v3 : Value} {x : Nat} : pz_R dA d 31 19 [v0, v1, v2, v3] (.ref x :: st) f Q = pz_R dA d 31 20 [v0, v1, v2, .ref x] st f Q := pz_go (pz_so d31_19 rfl)
theorem q31_19n {dA : Nat → ClassId} {d : Nat} {st : List Value} {f : pz_F} {Q : Option Value → pz_F → Prop} {v0 v1 v2 v3 : Value} : pz_R dA d 31 19 [v0, v1, v2, v3] (.null :: st) f Q = pz_R dA d 31 20 [v0, v1, v2, .null] st f Q := pz_go (pz_so d31_19 rfl)
theorem d31_20 : decode (pz_b 31) 20 = .ok (.aload_n 2, 1) := by decide +kernel
theorem q31_20 {dA : Nat → ClassId} {d : Nat} {st : List Value} {f : pz_F} {Q : Option Value → pz_F → Prop} {v0 v1 v3 : Value} {x : Nat} : pz_R dA d 31 20 [v0, v1, .ref x, v3] st f Q = pz_R dA d 31 21 [v0, v1, .ref x, v3] (.ref x :: st) f Q := pz_go (pz_so d31_20 rfl)
theorem q31_20n {dA : Nat → ClassId} {d : Nat} {st : List Value} {f : pz_F} {Q : Option Value → pz_F → Prop} {v0 v1 v3 : Value} : pz_R dA d 31 20 [v0, v1, .null, v3] st f Q = pz_R dA d 31 21 [v0, v1, .null, v3] (.null :: st) f Q := pz_go (pz_so d31_20 rfl)
theorem d31_21 : decode (pz_b 31) 21 = .ok (.invokevirtual 151, 3) := by decide +kernel
theorem q31_21 {dA : Nat → ClassId} {d : Nat} {st : List Value} {f : pz_F} {Q : Option Value → pz_F → Prop} {v0 v1 v2 v3 : Value} {b : Nat} (hr : st.length ≤ 4) : pz_R dA (d + 1) 31 21 [v0, v1, v2, v3] (.ref b :: st) f Q = pz_o (pz_gu f b 1) (fun _ => pz_C dA d 36 [.ref b] f (fun r f' => pz_R dA (d + 1) 31 24 [v0, v1, v2, v3] (r.toList ++ st) f' Q)) := pz_gcv (As := []) d31_21 rfl rfl rfl hr
theorem d31_24 : decode (pz_b 31) 24 = .ok (.ifCond .eq 18, 3) := by decide +kernel
theorem q31_24 {dA : Nat → ClassId} {d : Nat} {st : List Value} {f : pz_F} {Q : Option Value → pz_F → Prop} {v0 v1 v2 v3 : Value} {x : Int32} : pz_R dA d 31 24 [v0, v1, v2, v3] (.int x :: st) f Q = (if x = 0 then pz_R dA d 31 42 [v0, v1, v2, v3] st f Q else pz_R dA d 31 27 [v0, v1, v2, v3] st f Q) := pz_gj1 .eq d31_24 rfl
theorem d31_27 : decode (pz_b 31) 27 = .ok (.aload_n 3, 1) := by decide +kernel
theorem q31_27 {dA : Nat → ClassId} {d : Nat} {st : List Value} {f : pz_F} {Q : Option Value → pz_F → Prop} {v0 v1 v2 : Value} {x : Nat} : pz_R dA d 31 27 [v0, v1, v2, .ref x] st f Q = pz_R dA d 31 28 [v0, v1, v2, .ref x] (.ref x :: st) f Q := pz_go (pz_so d31_27 rfl)
theorem q31_27n {dA : Nat → ClassId} {d : Nat} {st : List Value} {f : pz_F} {Q : Option Value → pz_F → Prop} {v0 v1 v2 : Value} : pz_R dA d 31 27 [v0, v1, v2, .null] st f Q = pz_R dA d 31 28 [v0, v1, v2, .null] (.null :: st) f Q := pz_go (pz_so d31_27 rfl)
theorem d31_28 : decode (pz_b 31) 28 = .ok (.aload_n 1, 1) := by decide +kernel
theorem q31_28 {dA : Nat → ClassId} {d : Nat} {st : List Value} {f : pz_F} {Q : Option Value → pz_F → Prop} {v0 v2 v3 : Value} {x : Nat} : pz_R dA d 31 28 [v0, .ref x, v2, v3] st f Q = pz_R dA d 31 29 [v0, .ref x, v2, v3] (.ref x :: st) f Q := pz_go (pz_so d31_28 rfl)
theorem q31_28n {dA : Nat → ClassId} {d : Nat} {st : List Value} {f : pz_F} {Q : Option Value → pz_F → Prop} {v0 v2 v3 : Value} : pz_R dA d 31 28 [v0, .null, v2, v3] st f Q = pz_R dA d 31 29 [v0, .null, v2, v3] (.null :: st) f Q := pz_go (pz_so d31_28 rfl)
theorem d31_29 : decode (pz_b 31) 29 = .ok (.getfield 215, 3) := by decide +kernel
theorem q31_29 {dA : Nat → ClassId} {d : Nat} {st : List Value} {f : pz_F} {Q : Option Value → pz_F → Prop} {v0 v1 v2 v3 : Value} {a : Nat} : pz_R dA d 31 29 [v0, v1, v2, v3] (.ref a :: st) f Q = pz_o (pz_gf f a 5 1) (fun v => pz_R dA d 31 32 [v0, v1, v2, v3] (v :: st) f Q) := pz_gg d31_29 rfl
theorem d31_32 : decode (pz_b 31) 32 = .ok (.invokevirtual 259, 3) := by decide +kernel
theorem q31_32 {dA : Nat → ClassId} {d : Nat} {st : List Value} {f : pz_F} {Q : Option Value → pz_F → Prop} {v0 v1 v2 v3 : Value} {c0 : Int32} {b : Nat} (hr : st.length ≤ 4) : pz_R dA (d + 1) 31 32 [v0, v1, v2, v3] (.int c0 :: .ref b :: st) f Q = pz_o (pz_gu f b 2) (fun _ => pz_C dA d 50 [.ref b, .int c0] f (fun r f' => pz_R dA (d + 1) 31 35 [v0, v1, v2, v3] (r.toList ++ st) f' Q)) := pz_gcv (As := [.int c0]) d31_32 rfl rfl rfl hr
theorem d31_35 : decode (pz_b 31) 35 = .ok (.ifCond .eq 7, 3) := by decide +kernel
theorem q31_35 {dA : Nat → ClassId} {d : Nat} {st : List Value} {f : pz_F} {Q : Option Value → pz_F → Prop} {v0 v1 v2 v3 : Value} {x : Int32} : pz_R dA d 31 35 [v0, v1, v2, v3] (.int x :: st) f Q = (if x = 0 then pz_R dA d 31 42 [v0, v1, v2, v3] st f Q else pz_R dA d 31 38 [v0, v1, v2, v3] st f Q) := pz_gj1 .eq d31_35 rfl
theorem d31_38 : decode (pz_b 31) 38 = .ok (.aload_n 3, 1) := by decide +kernel
theorem q31_38 {dA : Nat → ClassId} {d : Nat} {st : List Value} {f : pz_F} {Q : Option Value → pz_F → Prop} {v0 v1 v2 : Value} {x : Nat} : pz_R dA d 31 38 [v0, v1, v2, .ref x] st f Q = pz_R dA d 31 39 [v0, v1, v2, .ref x] (.ref x :: st) f Q := pz_go (pz_so d31_38 rfl)
theorem q31_38n {dA : Nat → ClassId} {d : Nat} {st : List Value} {f : pz_F} {Q : Option Value → pz_F → Prop} {v0 v1 v2 : Value} : pz_R dA d 31 38 [v0, v1, v2, .null] st f Q = pz_R dA d 31 39 [v0, v1, v2, .null] (.null :: st) f Q := pz_go (pz_so d31_38 rfl)
theorem d31_39 : decode (pz_b 31) 39 = .ok (.invokevirtual 262, 3) := by decide +kernel
theorem q31_39 {dA : Nat → ClassId} {d : Nat} {st : List Value} {f : pz_F} {Q : Option Value → pz_F → Prop} {v0 v1 v2 v3 : Value} {b : Nat} (hr : st.length ≤ 4) : pz_R dA (d + 1) 31 39 [v0, v1, v2, v3] (.ref b :: st) f Q = pz_o (pz_gu f b 2) (fun _ => pz_C dA d 53 [.ref b] f (fun r f' => pz_R dA (d + 1) 31 42 [v0, v1, v2, v3] (r.toList ++ st) f' Q)) := pz_gcv (As := []) d31_39 rfl rfl rfl hr
theorem d31_42 : decode (pz_b 31) 42 = .ok (.return_, 1) := by decide +kernel
theorem q31_42 {dA : Nat → ClassId} {d : Nat} {st : List Value} {f : pz_F} {Q : Option Value → pz_F → Prop} {v0 v1 v2 v3 : Value} : pz_R dA d 31 42 [v0, v1, v2, v3] [] f Q = Q none f := pz_gr (pz_so d31_42 rfl)
/-! P_arriveUpdate (LLeasePair$Message;)V -/
theorem e32 {dA : Nat → ClassId} {d : Nat} {f : pz_F} {Q : Option Value → pz_F → Prop} {a0 : Nat} {a1 : Nat} : pz_C dA d 32 [.ref a0, .ref a1] f Q = pz_R dA d 32 0 [.ref a0, .ref a1] [] f Q := rfl
theorem d32_0 : decode (pz_b 32) 0 = .ok (.aload_n 0, 1) := by decide +kernel
theorem q32_0 {dA : Nat → ClassId} {d : Nat} {st : List Value} {f : pz_F} {Q : Option Value → pz_F → Prop} {v1 : Value} {x : Nat} : pz_R dA d 32 0 [.ref x, v1] st f Q = pz_R dA d 32 1 [.ref x, v1] (.ref x :: st) f Q := pz_go (pz_so d32_0 rfl)
theorem d32_1 : decode (pz_b 32) 1 = .ok (.getfield 19, 3) := by decide +kernel
theorem q32_1 {dA : Nat → ClassId} {d : Nat} {st : List Value} {f : pz_F} {Q : Option Value → pz_F → Prop} {v0 v1 : Value} {a : Nat} : pz_R dA d 32 1 [v0, v1] (.ref a :: st) f Q = pz_o (pz_gf f a 0 2) (fun v => pz_R dA d 32 4 [v0, v1] (v :: st) f Q) := pz_gg d32_1 rfl
theorem d32_4 : decode (pz_b 32) 4 = .ok (.aload_n 1, 1) := by decide +kernel
theorem q32_4 {dA : Nat → ClassId} {d : Nat} {st : List Value} {f : pz_F} {Q : Option Value → pz_F → Prop} {v0 : Value} {x : Nat} : pz_R dA d 32 4 [v0, .ref x] st f Q = pz_R dA d 32 5 [v0, .ref x] (.ref x :: st) f Q := pz_go (pz_so d32_4 rfl)
theorem q32_4n {dA : Nat → ClassId} {d : Nat} {st : List Value} {f : pz_F} {Q : Option Value → pz_F → Prop} {v0 : Value} : pz_R dA d 32 4 [v0, .null] st f Q = pz_R dA d 32 5 [v0, .null] (.null :: st) f Q := pz_go (pz_so d32_4 rfl)
theorem d32_5 : decode (pz_b 32) 5 = .ok (.getfield 212, 3) := by decide +kernel
theorem q32_5 {dA : Nat → ClassId} {d : Nat} {st : List Value} {f : pz_F} {Q : Option Value → pz_F → Prop} {v0 v1 : Value} {a : Nat} : pz_R dA d 32 5 [v0, v1] (.ref a :: st) f Q = pz_o (pz_gf f a 5 2) (fun v => pz_R dA d 32 8 [v0, v1] (v :: st) f Q) := pz_gg d32_5 rfl
theorem d32_8 : decode (pz_b 32) 8 = .ok (.aaload, 1) := by decide +kernel
theorem q32_8 {dA : Nat → ClassId} {d : Nat} {st : List Value} {f : pz_F} {Q : Option Value → pz_F → Prop} {v0 v1 : Value} {i : Int32} {a : Nat} : pz_R dA d 32 8 [v0, v1] (.int i :: .ref a :: st) f Q = pz_o (pz_rl dA f a i) (fun v => pz_R dA d 32 9 [v0, v1] (v :: st) f Q) := pz_grl d32_8
theorem d32_9 : decode (pz_b 32) 9 = .ok (.aload_n 1, 1) := by decide +kernel
theorem q32_9 {dA : Nat → ClassId} {d : Nat} {st : List Value} {f : pz_F} {Q : Option Value → pz_F → Prop} {v0 : Value} {x : Nat} : pz_R dA d 32 9 [v0, .ref x] st f Q = pz_R dA d 32 10 [v0, .ref x] (.ref x :: st) f Q := pz_go (pz_so d32_9 rfl)
theorem q32_9n {dA : Nat → ClassId} {d : Nat} {st : List Value} {f : pz_F} {Q : Option Value → pz_F → Prop} {v0 : Value} : pz_R dA d 32 9 [v0, .null] st f Q = pz_R dA d 32 10 [v0, .null] (.null :: st) f Q := pz_go (pz_so d32_9 rfl)
theorem d32_10 : decode (pz_b 32) 10 = .ok (.aload_n 0, 1) := by decide +kernel
theorem q32_10 {dA : Nat → ClassId} {d : Nat} {st : List Value} {f : pz_F} {Q : Option Value → pz_F → Prop} {v1 : Value} {x : Nat} : pz_R dA d 32 10 [.ref x, v1] st f Q = pz_R dA d 32 11 [.ref x, v1] (.ref x :: st) f Q := pz_go (pz_so d32_10 rfl)
theorem d32_11 : decode (pz_b 32) 11 = .ok (.getfield 7, 3) := by decide +kernel
theorem q32_11 {dA : Nat → ClassId} {d : Nat} {st : List Value} {f : pz_F} {Q : Option Value → pz_F → Prop} {v0 v1 : Value} {a : Nat} : pz_R dA d 32 11 [v0, v1] (.ref a :: st) f Q = pz_o (pz_gf f a 0 0) (fun v => pz_R dA d 32 14 [v0, v1] (v :: st) f Q) := pz_gg d32_11 rfl
theorem d32_14 : decode (pz_b 32) 14 = .ok (.invokevirtual 265, 3) := by decide +kernel
theorem q32_14 {dA : Nat → ClassId} {d : Nat} {st : List Value} {f : pz_F} {Q : Option Value → pz_F → Prop} {v0 v1 : Value} {c0 : Nat} {c1 : Int32} {b : Nat} (hr : st.length ≤ 4) : pz_R dA (d + 1) 32 14 [v0, v1] (.int c1 :: .ref c0 :: .ref b :: st) f Q = pz_o (pz_gu f b 1) (fun _ => pz_C dA d 41 [.ref b, .ref c0, .int c1] f (fun r f' => pz_R dA (d + 1) 32 17 [v0, v1] (r.toList ++ st) f' Q)) := pz_gcv (As := [.ref c0, .int c1]) d32_14 rfl rfl rfl hr
theorem d32_17 : decode (pz_b 32) 17 = .ok (.ifCond .eq 8, 3) := by decide +kernel
theorem q32_17 {dA : Nat → ClassId} {d : Nat} {st : List Value} {f : pz_F} {Q : Option Value → pz_F → Prop} {v0 v1 : Value} {x : Int32} : pz_R dA d 32 17 [v0, v1] (.int x :: st) f Q = (if x = 0 then pz_R dA d 32 25 [v0, v1] st f Q else pz_R dA d 32 20 [v0, v1] st f Q) := pz_gj1 .eq d32_17 rfl
theorem d32_20 : decode (pz_b 32) 20 = .ok (.aload_n 0, 1) := by decide +kernel
theorem q32_20 {dA : Nat → ClassId} {d : Nat} {st : List Value} {f : pz_F} {Q : Option Value → pz_F → Prop} {v1 : Value} {x : Nat} : pz_R dA d 32 20 [.ref x, v1] st f Q = pz_R dA d 32 21 [.ref x, v1] (.ref x :: st) f Q := pz_go (pz_so d32_20 rfl)
theorem d32_21 : decode (pz_b 32) 21 = .ok (.aload_n 1, 1) := by decide +kernel
theorem q32_21 {dA : Nat → ClassId} {d : Nat} {st : List Value} {f : pz_F} {Q : Option Value → pz_F → Prop} {v0 : Value} {x : Nat} : pz_R dA d 32 21 [v0, .ref x] st f Q = pz_R dA d 32 22 [v0, .ref x] (.ref x :: st) f Q := pz_go (pz_so d32_21 rfl)
theorem q32_21n {dA : Nat → ClassId} {d : Nat} {st : List Value} {f : pz_F} {Q : Option Value → pz_F → Prop} {v0 : Value} : pz_R dA d 32 21 [v0, .null] st f Q = pz_R dA d 32 22 [v0, .null] (.null :: st) f Q := pz_go (pz_so d32_21 rfl)
theorem d32_22 : decode (pz_b 32) 22 = .ok (.invokevirtual 269, 3) := by decide +kernel
theorem q32_22 {dA : Nat → ClassId} {d : Nat} {st : List Value} {f : pz_F} {Q : Option Value → pz_F → Prop} {v0 v1 : Value} {c0 : Nat} {b : Nat} (hr : st.length ≤ 4) : pz_R dA (d + 1) 32 22 [v0, v1] (.ref c0 :: .ref b :: st) f Q = pz_o (pz_gu f b 0) (fun _ => pz_C dA d 27 [.ref b, .ref c0] f (fun r f' => pz_R dA (d + 1) 32 25 [v0, v1] (r.toList ++ st) f' Q)) := pz_gcv (As := [.ref c0]) d32_22 rfl rfl rfl hr
theorem d32_25 : decode (pz_b 32) 25 = .ok (.return_, 1) := by decide +kernel
theorem q32_25 {dA : Nat → ClassId} {d : Nat} {st : List Value} {f : pz_F} {Q : Option Value → pz_F → Prop} {v0 v1 : Value} : pz_R dA d 32 25 [v0, v1] [] f Q = Q none f := pz_gr (pz_so d32_25 rfl)
/-! P_arriveAcknowledgement (LLeasePair$Message;)V -/
theorem e33 {dA : Nat → ClassId} {d : Nat} {f : pz_F} {Q : Option Value → pz_F → Prop} {a0 : Nat} {a1 : Nat} : pz_C dA d 33 [.ref a0, .ref a1] f Q = pz_R dA d 33 0 [.ref a0, .ref a1, .retAddr 0] [] f Q := rfl
theorem d33_0 : decode (pz_b 33) 0 = .ok (.aload_n 0, 1) := by decide +kernel
theorem q33_0 {dA : Nat → ClassId} {d : Nat} {st : List Value} {f : pz_F} {Q : Option Value → pz_F → Prop} {v1 v2 : Value} {x : Nat} : pz_R dA d 33 0 [.ref x, v1, v2] st f Q = pz_R dA d 33 1 [.ref x, v1, v2] (.ref x :: st) f Q := pz_go (pz_so d33_0 rfl)
theorem d33_1 : decode (pz_b 33) 1 = .ok (.getfield 19, 3) := by decide +kernel
theorem q33_1 {dA : Nat → ClassId} {d : Nat} {st : List Value} {f : pz_F} {Q : Option Value → pz_F → Prop} {v0 v1 v2 : Value} {a : Nat} : pz_R dA d 33 1 [v0, v1, v2] (.ref a :: st) f Q = pz_o (pz_gf f a 0 2) (fun v => pz_R dA d 33 4 [v0, v1, v2] (v :: st) f Q) := pz_gg d33_1 rfl
theorem d33_4 : decode (pz_b 33) 4 = .ok (.aload_n 1, 1) := by decide +kernel
theorem q33_4 {dA : Nat → ClassId} {d : Nat} {st : List Value} {f : pz_F} {Q : Option Value → pz_F → Prop} {v0 v2 : Value} {x : Nat} : pz_R dA d 33 4 [v0, .ref x, v2] st f Q = pz_R dA d 33 5 [v0, .ref x, v2] (.ref x :: st) f Q := pz_go (pz_so d33_4 rfl)
theorem q33_4n {dA : Nat → ClassId} {d : Nat} {st : List Value} {f : pz_F} {Q : Option Value → pz_F → Prop} {v0 v2 : Value} : pz_R dA d 33 4 [v0, .null, v2] st f Q = pz_R dA d 33 5 [v0, .null, v2] (.null :: st) f Q := pz_go (pz_so d33_4 rfl)
theorem d33_5 : decode (pz_b 33) 5 = .ok (.getfield 212, 3) := by decide +kernel
theorem q33_5 {dA : Nat → ClassId} {d : Nat} {st : List Value} {f : pz_F} {Q : Option Value → pz_F → Prop} {v0 v1 v2 : Value} {a : Nat} : pz_R dA d 33 5 [v0, v1, v2] (.ref a :: st) f Q = pz_o (pz_gf f a 5 2) (fun v => pz_R dA d 33 8 [v0, v1, v2] (v :: st) f Q) := pz_gg d33_5 rfl
theorem d33_8 : decode (pz_b 33) 8 = .ok (.aaload, 1) := by decide +kernel
theorem q33_8 {dA : Nat → ClassId} {d : Nat} {st : List Value} {f : pz_F} {Q : Option Value → pz_F → Prop} {v0 v1 v2 : Value} {i : Int32} {a : Nat} : pz_R dA d 33 8 [v0, v1, v2] (.int i :: .ref a :: st) f Q = pz_o (pz_rl dA f a i) (fun v => pz_R dA d 33 9 [v0, v1, v2] (v :: st) f Q) := pz_grl d33_8
theorem d33_9 : decode (pz_b 33) 9 = .ok (.astore_n 2, 1) := by decide +kernel
theorem q33_9 {dA : Nat → ClassId} {d : Nat} {st : List Value} {f : pz_F} {Q : Option Value → pz_F → Prop} {v0 v1 v2 : Value} {x : Nat} : pz_R dA d 33 9 [v0, v1, v2] (.ref x :: st) f Q = pz_R dA d 33 10 [v0, v1, .ref x] st f Q := pz_go (pz_so d33_9 rfl)
theorem q33_9n {dA : Nat → ClassId} {d : Nat} {st : List Value} {f : pz_F} {Q : Option Value → pz_F → Prop} {v0 v1 v2 : Value} : pz_R dA d 33 9 [v0, v1, v2] (.null :: st) f Q = pz_R dA d 33 10 [v0, v1, .null] st f Q := pz_go (pz_so d33_9 rfl)
theorem d33_10 : decode (pz_b 33) 10 = .ok (.aload_n 2, 1) := by decide +kernel
theorem q33_10 {dA : Nat → ClassId} {d : Nat} {st : List Value} {f : pz_F} {Q : Option Value → pz_F → Prop} {v0 v1 : Value} {x : Nat} : pz_R dA d 33 10 [v0, v1, .ref x] st f Q = pz_R dA d 33 11 [v0, v1, .ref x] (.ref x :: st) f Q := pz_go (pz_so d33_10 rfl)
theorem q33_10n {dA : Nat → ClassId} {d : Nat} {st : List Value} {f : pz_F} {Q : Option Value → pz_F → Prop} {v0 v1 : Value} : pz_R dA d 33 10 [v0, v1, .null] st f Q = pz_R dA d 33 11 [v0, v1, .null] (.null :: st) f Q := pz_go (pz_so d33_10 rfl)
theorem d33_11 : decode (pz_b 33) 11 = .ok (.invokevirtual 151, 3) := by decide +kernel
theorem q33_11 {dA : Nat → ClassId} {d : Nat} {st : List Value} {f : pz_F} {Q : Option Value → pz_F → Prop} {v0 v1 v2 : Value} {b : Nat} (hr : st.length ≤ 4) : pz_R dA (d + 1) 33 11 [v0, v1, v2] (.ref b :: st) f Q = pz_o (pz_gu f b 1) (fun _ => pz_C dA d 36 [.ref b] f (fun r f' => pz_R dA (d + 1) 33 14 [v0, v1, v2] (r.toList ++ st) f' Q)) := pz_gcv (As := []) d33_11 rfl rfl rfl hr
theorem d33_14 : decode (pz_b 33) 14 = .ok (.ifCond .eq 16, 3) := by decide +kernel
theorem q33_14 {dA : Nat → ClassId} {d : Nat} {st : List Value} {f : pz_F} {Q : Option Value → pz_F → Prop} {v0 v1 v2 : Value} {x : Int32} : pz_R dA d 33 14 [v0, v1, v2] (.int x :: st) f Q = (if x = 0 then pz_R dA d 33 30 [v0, v1, v2] st f Q else pz_R dA d 33 17 [v0, v1, v2] st f Q) := pz_gj1 .eq d33_14 rfl
theorem d33_17 : decode (pz_b 33) 17 = .ok (.aload_n 2, 1) := by decide +kernel
theorem q33_17 {dA : Nat → ClassId} {d : Nat} {st : List Value} {f : pz_F} {Q : Option Value → pz_F → Prop} {v0 v1 : Value} {x : Nat} : pz_R dA d 33 17 [v0, v1, .ref x] st f Q = pz_R dA d 33 18 [v0, v1, .ref x] (.ref x :: st) f Q := pz_go (pz_so d33_17 rfl)
theorem q33_17n {dA : Nat → ClassId} {d : Nat} {st : List Value} {f : pz_F} {Q : Option Value → pz_F → Prop} {v0 v1 : Value} : pz_R dA d 33 17 [v0, v1, .null] st f Q = pz_R dA d 33 18 [v0, v1, .null] (.null :: st) f Q := pz_go (pz_so d33_17 rfl)
theorem d33_18 : decode (pz_b 33) 18 = .ok (.getfield 121, 3) := by decide +kernel
theorem q33_18 {dA : Nat → ClassId} {d : Nat} {st : List Value} {f : pz_F} {Q : Option Value → pz_F → Prop} {v0 v1 v2 : Value} {a : Nat} : pz_R dA d 33 18 [v0, v1, v2] (.ref a :: st) f Q = pz_o (pz_gf f a 1 1) (fun v => pz_R dA d 33 21 [v0, v1, v2] (v :: st) f Q) := pz_gg d33_18 rfl
theorem d33_21 : decode (pz_b 33) 21 = .ok (.aload_n 1, 1) := by decide +kernel
theorem q33_21 {dA : Nat → ClassId} {d : Nat} {st : List Value} {f : pz_F} {Q : Option Value → pz_F → Prop} {v0 v2 : Value} {x : Nat} : pz_R dA d 33 21 [v0, .ref x, v2] st f Q = pz_R dA d 33 22 [v0, .ref x, v2] (.ref x :: st) f Q := pz_go (pz_so d33_21 rfl)
theorem q33_21n {dA : Nat → ClassId} {d : Nat} {st : List Value} {f : pz_F} {Q : Option Value → pz_F → Prop} {v0 v2 : Value} : pz_R dA d 33 21 [v0, .null, v2] st f Q = pz_R dA d 33 22 [v0, .null, v2] (.null :: st) f Q := pz_go (pz_so d33_21 rfl)
theorem d33_22 : decode (pz_b 33) 22 = .ok (.getfield 80, 3) := by decide +kernel
theorem q33_22 {dA : Nat → ClassId} {d : Nat} {st : List Value} {f : pz_F} {Q : Option Value → pz_F → Prop} {v0 v1 v2 : Value} {a : Nat} : pz_R dA d 33 22 [v0, v1, v2] (.ref a :: st) f Q = pz_o (pz_gf f a 5 5) (fun v => pz_R dA d 33 25 [v0, v1, v2] (v :: st) f Q) := pz_gg d33_22 rfl
theorem d33_25 : decode (pz_b 33) 25 = .ok (.aaload, 1) := by decide +kernel
theorem q33_25 {dA : Nat → ClassId} {d : Nat} {st : List Value} {f : pz_F} {Q : Option Value → pz_F → Prop} {v0 v1 v2 : Value} {i : Int32} {a : Nat} : pz_R dA d 33 25 [v0, v1, v2] (.int i :: .ref a :: st) f Q = pz_o (pz_rl dA f a i) (fun v => pz_R dA d 33 26 [v0, v1, v2] (v :: st) f Q) := pz_grl d33_25
theorem d33_26 : decode (pz_b 33) 26 = .ok (.aload_n 1, 1) := by decide +kernel
theorem q33_26 {dA : Nat → ClassId} {d : Nat} {st : List Value} {f : pz_F} {Q : Option Value → pz_F → Prop} {v0 v2 : Value} {x : Nat} : pz_R dA d 33 26 [v0, .ref x, v2] st f Q = pz_R dA d 33 27 [v0, .ref x, v2] (.ref x :: st) f Q := pz_go (pz_so d33_26 rfl)
theorem q33_26n {dA : Nat → ClassId} {d : Nat} {st : List Value} {f : pz_F} {Q : Option Value → pz_F → Prop} {v0 v2 : Value} : pz_R dA d 33 26 [v0, .null, v2] st f Q = pz_R dA d 33 27 [v0, .null, v2] (.null :: st) f Q := pz_go (pz_so d33_26 rfl)
theorem d33_27 : decode (pz_b 33) 27 = .ok (.invokevirtual 272, 3) := by decide +kernel
theorem q33_27 {dA : Nat → ClassId} {d : Nat} {st : List Value} {f : pz_F} {Q : Option Value → pz_F → Prop} {v0 v1 v2 : Value} {c0 : Nat} {b : Nat} (hr : st.length ≤ 4) : pz_R dA (d + 1) 33 27 [v0, v1, v2] (.ref c0 :: .ref b :: st) f Q = pz_o (pz_gu f b 2) (fun _ => pz_C dA d 62 [.ref b, .ref c0] f (fun r f' => pz_R dA (d + 1) 33 30 [v0, v1, v2] (r.toList ++ st) f' Q)) := pz_gcv (As := [.ref c0]) d33_27 rfl rfl rfl hr
theorem d33_30 : decode (pz_b 33) 30 = .ok (.return_, 1) := by decide +kernel
theorem q33_30 {dA : Nat → ClassId} {d : Nat} {st : List Value} {f : pz_F} {Q : Option Value → pz_F → Prop} {v0 v1 v2 : Value} : pz_R dA d 33 30 [v0, v1, v2] [] f Q = Q none f := pz_gr (pz_so d33_30 rfl)
/-! P_arriveDemand (LLeasePair$Message;)V -/
theorem e34 {dA : Nat → ClassId} {d : Nat} {f : pz_F} {Q : Option Value → pz_F → Prop} {a0 : Nat} {a1 : Nat} : pz_C dA d 34 [.ref a0, .ref a1] f Q = pz_R dA d 34 0 [.ref a0, .ref a1, .retAddr 0] [] f Q := rfl
theorem d34_0 : decode (pz_b 34) 0 = .ok (.aload_n 0, 1) := by decide +kernel
theorem q34_0 {dA : Nat → ClassId} {d : Nat} {st : List Value} {f : pz_F} {Q : Option Value → pz_F → Prop} {v1 v2 : Value} {x : Nat} : pz_R dA d 34 0 [.ref x, v1, v2] st f Q = pz_R dA d 34 1 [.ref x, v1, v2] (.ref x :: st) f Q := pz_go (pz_so d34_0 rfl)
theorem d34_1 : decode (pz_b 34) 1 = .ok (.getfield 19, 3) := by decide +kernel
theorem q34_1 {dA : Nat → ClassId} {d : Nat} {st : List Value} {f : pz_F} {Q : Option Value → pz_F → Prop} {v0 v1 v2 : Value} {a : Nat} : pz_R dA d 34 1 [v0, v1, v2] (.ref a :: st) f Q = pz_o (pz_gf f a 0 2) (fun v => pz_R dA d 34 4 [v0, v1, v2] (v :: st) f Q) := pz_gg d34_1 rfl
theorem d34_4 : decode (pz_b 34) 4 = .ok (.aload_n 1, 1) := by decide +kernel
theorem q34_4 {dA : Nat → ClassId} {d : Nat} {st : List Value} {f : pz_F} {Q : Option Value → pz_F → Prop} {v0 v2 : Value} {x : Nat} : pz_R dA d 34 4 [v0, .ref x, v2] st f Q = pz_R dA d 34 5 [v0, .ref x, v2] (.ref x :: st) f Q := pz_go (pz_so d34_4 rfl)
theorem q34_4n {dA : Nat → ClassId} {d : Nat} {st : List Value} {f : pz_F} {Q : Option Value → pz_F → Prop} {v0 v2 : Value} : pz_R dA d 34 4 [v0, .null, v2] st f Q = pz_R dA d 34 5 [v0, .null, v2] (.null :: st) f Q := pz_go (pz_so d34_4 rfl)
theorem d34_5 : decode (pz_b 34) 5 = .ok (.getfield 212, 3) := by decide +kernel
theorem q34_5 {dA : Nat → ClassId} {d : Nat} {st : List Value} {f : pz_F} {Q : Option Value → pz_F → Prop} {v0 v1 v2 : Value} {a : Nat} : pz_R dA d 34 5 [v0, v1, v2] (.ref a :: st) f Q = pz_o (pz_gf f a 5 2) (fun v => pz_R dA d 34 8 [v0, v1, v2] (v :: st) f Q) := pz_gg d34_5 rfl
theorem d34_8 : decode (pz_b 34) 8 = .ok (.aaload, 1) := by decide +kernel
theorem q34_8 {dA : Nat → ClassId} {d : Nat} {st : List Value} {f : pz_F} {Q : Option Value → pz_F → Prop} {v0 v1 v2 : Value} {i : Int32} {a : Nat} : pz_R dA d 34 8 [v0, v1, v2] (.int i :: .ref a :: st) f Q = pz_o (pz_rl dA f a i) (fun v => pz_R dA d 34 9 [v0, v1, v2] (v :: st) f Q) := pz_grl d34_8
theorem d34_9 : decode (pz_b 34) 9 = .ok (.astore_n 2, 1) := by decide +kernel
theorem q34_9 {dA : Nat → ClassId} {d : Nat} {st : List Value} {f : pz_F} {Q : Option Value → pz_F → Prop} {v0 v1 v2 : Value} {x : Nat} : pz_R dA d 34 9 [v0, v1, v2] (.ref x :: st) f Q = pz_R dA d 34 10 [v0, v1, .ref x] st f Q := pz_go (pz_so d34_9 rfl)
theorem q34_9n {dA : Nat → ClassId} {d : Nat} {st : List Value} {f : pz_F} {Q : Option Value → pz_F → Prop} {v0 v1 v2 : Value} : pz_R dA d 34 9 [v0, v1, v2] (.null :: st) f Q = pz_R dA d 34 10 [v0, v1, .null] st f Q := pz_go (pz_so d34_9 rfl)
theorem d34_10 : decode (pz_b 34) 10 = .ok (.aload_n 2, 1) := by decide +kernel
theorem q34_10 {dA : Nat → ClassId} {d : Nat} {st : List Value} {f : pz_F} {Q : Option Value → pz_F → Prop} {v0 v1 : Value} {x : Nat} : pz_R dA d 34 10 [v0, v1, .ref x] st f Q = pz_R dA d 34 11 [v0, v1, .ref x] (.ref x :: st) f Q := pz_go (pz_so d34_10 rfl)
theorem q34_10n {dA : Nat → ClassId} {d : Nat} {st : List Value} {f : pz_F} {Q : Option Value → pz_F → Prop} {v0 v1 : Value} : pz_R dA d 34 10 [v0, v1, .null] st f Q = pz_R dA d 34 11 [v0, v1, .null] (.null :: st) f Q := pz_go (pz_so d34_10 rfl)
theorem d34_11 : decode (pz_b 34) 11 = .ok (.invokevirtual 151, 3) := by decide +kernel
theorem q34_11 {dA : Nat → ClassId} {d : Nat} {st : List Value} {f : pz_F} {Q : Option Value → pz_F → Prop} {v0 v1 v2 : Value} {b : Nat} (hr : st.length ≤ 4) : pz_R dA (d + 1) 34 11 [v0, v1, v2] (.ref b :: st) f Q = pz_o (pz_gu f b 1) (fun _ => pz_C dA d 36 [.ref b] f (fun r f' => pz_R dA (d + 1) 34 14 [v0, v1, v2] (r.toList ++ st) f' Q)) := pz_gcv (As := []) d34_11 rfl rfl rfl hr
theorem d34_14 : decode (pz_b 34) 14 = .ok (.ifCond .ne 4, 3) := by decide +kernel
theorem q34_14 {dA : Nat → ClassId} {d : Nat} {st : List Value} {f : pz_F} {Q : Option Value → pz_F → Prop} {v0 v1 v2 : Value} {x : Int32} : pz_R dA d 34 14 [v0, v1, v2] (.int x :: st) f Q = (if x = 0 then pz_R dA d 34 17 [v0, v1, v2] st f Q else pz_R dA d 34 18 [v0, v1, v2] st f Q) := pz_gj1 .ne d34_14 rfl
theorem d34_17 : decode (pz_b 34) 17 = .ok (.return_, 1) := by decide +kernel
theorem q34_17 {dA : Nat → ClassId} {d : Nat} {st : List Value} {f : pz_F} {Q : Option Value → pz_F → Prop} {v0 v1 v2 : Value} : pz_R dA d 34 17 [v0, v1, v2] [] f Q = Q none f := pz_gr (pz_so d34_17 rfl)
theorem d34_18 : decode (pz_b 34) 18 = .ok (.aload_n 2, 1) := by decide +kernel
theorem q34_18 {dA : Nat → ClassId} {d : Nat} {st : List Value} {f : pz_F} {Q : Option Value → pz_F → Prop} {v0 v1 : Value} {x : Nat} : pz_R dA d 34 18 [v0, v1, .ref x] st f Q = pz_R dA d 34 19 [v0, v1, .ref x] (.ref x :: st) f Q := pz_go (pz_so d34_18 rfl)
theorem q34_18n {dA : Nat → ClassId} {d : Nat} {st : List Value} {f : pz_F} {Q : Option Value → pz_F → Prop} {v0 v1 : Value} : pz_R dA d 34 18 [v0, v1, .null] st f Q = pz_R dA d 34 19 [v0, v1, .null] (.null :: st) f Q := pz_go (pz_so d34_18 rfl)
theorem d34_19 : decode (pz_b 34) 19 = .ok (.aload_n 1, 1) := by decide +kernel
theorem q34_19 {dA : Nat → ClassId} {d : Nat} {st : List Value} {f : pz_F} {Q : Option Value → pz_F → Prop} {v0 v2 : Value} {x : Nat} : pz_R dA d 34 19 [v0, .ref x, v2] st f Q = pz_R dA d 34 20 [v0, .ref x, v2] (.ref x :: st) f Q := pz_go (pz_so d34_19 rfl)
theorem q34_19n {dA : Nat → ClassId} {d : Nat} {st : List Value} {f : pz_F} {Q : Option Value → pz_F → Prop} {v0 v2 : Value} : pz_R dA d 34 19 [v0, .null, v2] st f Q = pz_R dA d 34 20 [v0, .null, v2] (.null :: st) f Q := pz_go (pz_so d34_19 rfl)
theorem d34_20 : decode (pz_b 34) 20 = .ok (.getfield 204, 3) := by decide +kernel
theorem q34_20 {dA : Nat → ClassId} {d : Nat} {st : List Value} {f : pz_F} {Q : Option Value → pz_F → Prop} {v0 v1 v2 : Value} {a : Nat} : pz_R dA d 34 20 [v0, v1, v2] (.ref a :: st) f Q = pz_o (pz_gf f a 5 12) (fun v => pz_R dA d 34 23 [v0, v1, v2] (v :: st) f Q) := pz_gg d34_20 rfl
theorem d34_23 : decode (pz_b 34) 23 = .ok (.putfield 201, 3) := by decide +kernel
theorem q34_23 {dA : Nat → ClassId} {d : Nat} {st : List Value} {f : pz_F} {Q : Option Value → pz_F → Prop} {v0 v1 v2 : Value} {x : Int32} {a : Nat} : pz_R dA d 34 23 [v0, v1, v2] (.int x :: .ref a :: st) f Q = pz_o (pz_pf f a 1 5 (.int x)) (fun f' => pz_R dA d 34 26 [v0, v1, v2] st f' Q) := pz_gp d34_23 rfl rfl rfl rfl
theorem d34_26 : decode (pz_b 34) 26 = .ok (.aload_n 2, 1) := by decide +kernel
theorem q34_26 {dA : Nat → ClassId} {d : Nat} {st : List Value} {f : pz_F} {Q : Option Value → pz_F → Prop} {v0 v1 : Value} {x : Nat} : pz_R dA d 34 26 [v0, v1, .ref x] st f Q = pz_R dA d 34 27 [v0, v1, .ref x] (.ref x :: st) f Q := pz_go (pz_so d34_26 rfl)
theorem q34_26n {dA : Nat → ClassId} {d : Nat} {st : List Value} {f : pz_F} {Q : Option Value → pz_F → Prop} {v0 v1 : Value} : pz_R dA d 34 26 [v0, v1, .null] st f Q = pz_R dA d 34 27 [v0, v1, .null] (.null :: st) f Q := pz_go (pz_so d34_26 rfl)
theorem d34_27 : decode (pz_b 34) 27 = .ok (.aload_n 1, 1) := by decide +kernel
theorem q34_27 {dA : Nat → ClassId} {d : Nat} {st : List Value} {f : pz_F} {Q : Option Value → pz_F → Prop} {v0 v2 : Value} {x : Nat} : pz_R dA d 34 27 [v0, .ref x, v2] st f Q = pz_R dA d 34 28 [v0, .ref x, v2] (.ref x :: st) f Q := pz_go (pz_so d34_27 rfl)
theorem q34_27n {dA : Nat → ClassId} {d : Nat} {st : List Value} {f : pz_F} {Q : Option Value → pz_F → Prop} {v0 v2 : Value} : pz_R dA d 34 27 [v0, .null, v2] st f Q = pz_R dA d 34 28 [v0, .null, v2] (.null :: st) f Q := pz_go (pz_so d34_27 rfl)
theorem d34_28 : decode (pz_b 34) 28 = .ok (.getfield 207, 3) := by decide +kernel
theorem q34_28 {dA : Nat → ClassId} {d : Nat} {st : List Value} {f : pz_F} {Q : Option Value → pz_F → Prop} {v0 v1 v2 : Value} {a : Nat} : pz_R dA d 34 28 [v0, v1, v2] (.ref a :: st) f Q = pz_o (pz_gf f a 5 13) (fun v => pz_R dA d 34 31 [v0, v1, v2] (v :: st) f Q) := pz_gg d34_28 rfl
theorem d34_31 : decode (pz_b 34) 31 = .ok (.invokevirtual 275, 3) := by decide +kernel
theorem q34_31 {dA : Nat → ClassId} {d : Nat} {st : List Value} {f : pz_F} {Q : Option Value → pz_F → Prop} {v0 v1 v2 : Value} {c0 : Int32} {b : Nat} (hr : st.length ≤ 4) : pz_R dA (d + 1) 34 31 [v0, v1, v2] (.int c0 :: .ref b :: st) f Q = pz_o (pz_gu f b 1) (fun _ => pz_C dA d 43 [.ref b, .int c0] f (fun r f' => pz_R dA (d + 1) 34 34 [v0, v1, v2] (r.toList ++ st) f' Q)) := pz_gcv (As := [.int c0]) d34_31 rfl rfl rfl hr
theorem d34_34 : decode (pz_b 34) 34 = .ok (.aload_n 2, 1) := by decide +kernel
theorem q34_34 {dA : Nat → ClassId} {d : Nat} {st : List Value} {f : pz_F} {Q : Option Value → pz_F → Prop} {v0 v1 : Value} {x : Nat} : pz_R dA d 34 34 [v0, v1, .ref x] st f Q = pz_R dA d 34 35 [v0, v1, .ref x] (.ref x :: st) f Q := pz_go (pz_so d34_34 rfl)
theorem q34_34n {dA : Nat → ClassId} {d : Nat} {st : List Value} {f : pz_F} {Q : Option Value → pz_F → Prop} {v0 v1 : Value} : pz_R dA d 34 34 [v0, v1, .null] st f Q = pz_R dA d 34 35 [v0, v1, .null] (.null :: st) f Q := pz_go (pz_so d34_34 rfl)
theorem d34_35 : decode (pz_b 34) 35 = .ok (.getfield 46, 3) := by decide +kernel
theorem q34_35 {dA : Nat → ClassId} {d : Nat} {st : List Value} {f : pz_F} {Q : Option Value → pz_F → Prop} {v0 v1 v2 : Value} {a : Nat} : pz_R dA d 34 35 [v0, v1, v2] (.ref a :: st) f Q = pz_o (pz_gf f a 1 2) (fun v => pz_R dA d 34 38 [v0, v1, v2] (v :: st) f Q) := pz_gg d34_35 rfl
theorem d34_38 : decode (pz_b 34) 38 = .ok (.iconst 3, 1) := by decide +kernel
theorem q34_38 {dA : Nat → ClassId} {d : Nat} {st : List Value} {f : pz_F} {Q : Option Value → pz_F → Prop} {v0 v1 v2 : Value} : pz_R dA d 34 38 [v0, v1, v2] st f Q = pz_R dA d 34 39 [v0, v1, v2] (.int 3 :: st) f Q := pz_go (pz_so d34_38 rfl)
theorem d34_39 : decode (pz_b 34) 39 = .ok (.if_icmp .ne 8, 3) := by decide +kernel
theorem q34_39 {dA : Nat → ClassId} {d : Nat} {st : List Value} {f : pz_F} {Q : Option Value → pz_F → Prop} {v0 v1 v2 : Value} {x y : Int32} : pz_R dA d 34 39 [v0, v1, v2] (.int y :: .int x :: st) f Q = (if x = y then pz_R dA d 34 42 [v0, v1, v2] st f Q else pz_R dA d 34 47 [v0, v1, v2] st f Q) := pz_gjn .ne d34_39 rfl
theorem d34_42 : decode (pz_b 34) 42 = .ok (.aload_n 2, 1) := by decide +kernel
theorem q34_42 {dA : Nat → ClassId} {d : Nat} {st : List Value} {f : pz_F} {Q : Option Value → pz_F → Prop} {v0 v1 : Value} {x : Nat} : pz_R dA d 34 42 [v0, v1, .ref x] st f Q = pz_R dA d 34 43 [v0, v1, .ref x] (.ref x :: st) f Q := pz_go (pz_so d34_42 rfl)
theorem q34_42n {dA : Nat → ClassId} {d : Nat} {st : List Value} {f : pz_F} {Q : Option Value → pz_F → Prop} {v0 v1 : Value} : pz_R dA d 34 42 [v0, v1, .null] st f Q = pz_R dA d 34 43 [v0, v1, .null] (.null :: st) f Q := pz_go (pz_so d34_42 rfl)
theorem d34_43 : decode (pz_b 34) 43 = .ok (.iconst 1, 1) := by decide +kernel
theorem q34_43 {dA : Nat → ClassId} {d : Nat} {st : List Value} {f : pz_F} {Q : Option Value → pz_F → Prop} {v0 v1 v2 : Value} : pz_R dA d 34 43 [v0, v1, v2] st f Q = pz_R dA d 34 44 [v0, v1, v2] (.int 1 :: st) f Q := pz_go (pz_so d34_43 rfl)
theorem d34_44 : decode (pz_b 34) 44 = .ok (.putfield 46, 3) := by decide +kernel
theorem q34_44 {dA : Nat → ClassId} {d : Nat} {st : List Value} {f : pz_F} {Q : Option Value → pz_F → Prop} {v0 v1 v2 : Value} {x : Int32} {a : Nat} : pz_R dA d 34 44 [v0, v1, v2] (.int x :: .ref a :: st) f Q = pz_o (pz_pf f a 1 2 (.int x)) (fun f' => pz_R dA d 34 47 [v0, v1, v2] st f' Q) := pz_gp d34_44 rfl rfl rfl rfl
theorem d34_47 : decode (pz_b 34) 47 = .ok (.return_, 1) := by decide +kernel
theorem q34_47 {dA : Nat → ClassId} {d : Nat} {st : List Value} {f : pz_F} {Q : Option Value → pz_F → Prop} {v0 v1 v2 : Value} : pz_R dA d 34 47 [v0, v1, v2] [] f Q = Q none f := pz_gr (pz_so d34_47 rfl)
end
