section
-- ===== PART A: goes FIRST, ahead of the names: the tables' words, and 'selects' of the private methods out of them =====
/-- a private method of a class that the tables say can be made, by its rows of tables_1 -/
def lw_okq (q : MethodName × Nat) : Prop := (q.1.cls ≠ "java/lang/invoke/MethodHandle" ∧ q.1.cls ≠ "java/lang/invoke/VarHandle") ∧ Cond.instantiable q.1.cls q.2 ∈ tables_1 ∧ Cond.privateMethod q.1 ∈ tables_1 ∧ Cond.instanceMethod q.1 ∈ tables_1
theorem lw_p0 : lw_okq (⟨"RiverSteamers", "refused", "(I)I"⟩, 8) := ⟨⟨by decide +kernel, by decide +kernel⟩, List.mem_of_getElem? (i := 19) (by decide +kernel), List.mem_of_getElem? (i := 388) (by decide +kernel), List.mem_of_getElem? (i := 389) (by decide +kernel)⟩
theorem lw_p1 : lw_okq (⟨"RiverSteamers$Stretch", "begin", "(IIII)V"⟩, 6) := ⟨⟨by decide +kernel, by decide +kernel⟩, List.mem_of_getElem? (i := 47) (by decide +kernel), List.mem_of_getElem? (i := 392) (by decide +kernel), List.mem_of_getElem? (i := 393) (by decide +kernel)⟩
theorem lw_p2 : lw_okq (⟨"RiverSteamers", "done", "(I)I"⟩, 8) := ⟨⟨by decide +kernel, by decide +kernel⟩, List.mem_of_getElem? (i := 19) (by decide +kernel), List.mem_of_getElem? (i := 397) (by decide +kernel), List.mem_of_getElem? (i := 398) (by decide +kernel)⟩
theorem lw_p3 : lw_okq (⟨"RiverSteamers$River", "tellHeight", "(II)V"⟩, 16) := ⟨⟨by decide +kernel, by decide +kernel⟩, List.mem_of_getElem? (i := 27) (by decide +kernel), List.mem_of_getElem? (i := 408) (by decide +kernel), List.mem_of_getElem? (i := 409) (by decide +kernel)⟩
theorem lw_p4 : lw_okq (⟨"RiverSteamers$River", "isStretch", "(I)Z"⟩, 16) := ⟨⟨by decide +kernel, by decide +kernel⟩, List.mem_of_getElem? (i := 27) (by decide +kernel), List.mem_of_getElem? (i := 416) (by decide +kernel), List.mem_of_getElem? (i := 417) (by decide +kernel)⟩
theorem lw_p5 : lw_okq (⟨"RiverSteamers$River", "isLanding", "(I)Z"⟩, 16) := ⟨⟨by decide +kernel, by decide +kernel⟩, List.mem_of_getElem? (i := 27) (by decide +kernel), List.mem_of_getElem? (i := 438) (by decide +kernel), List.mem_of_getElem? (i := 439) (by decide +kernel)⟩
theorem lw_p6 : lw_okq (⟨"RiverSteamers$Boat", "begin", "(IIII)V"⟩, 10) := ⟨⟨by decide +kernel, by decide +kernel⟩, List.mem_of_getElem? (i := 117) (by decide +kernel), List.mem_of_getElem? (i := 442) (by decide +kernel), List.mem_of_getElem? (i := 443) (by decide +kernel)⟩
theorem lw_p7 : lw_okq (⟨"RiverSteamers$Words", "forgetAll", "()V"⟩, 2) := ⟨⟨by decide +kernel, by decide +kernel⟩, List.mem_of_getElem? (i := 92) (by decide +kernel), List.mem_of_getElem? (i := 446) (by decide +kernel), List.mem_of_getElem? (i := 447) (by decide +kernel)⟩
theorem lw_p8 : lw_okq (⟨"RiverSteamers$River", "isWay", "(II)Z"⟩, 16) := ⟨⟨by decide +kernel, by decide +kernel⟩, List.mem_of_getElem? (i := 27) (by decide +kernel), List.mem_of_getElem? (i := 454) (by decide +kernel), List.mem_of_getElem? (i := 455) (by decide +kernel)⟩
theorem lw_p9 : lw_okq (⟨"RiverSteamers$Bale", "begin", "(IIII)V"⟩, 5) := ⟨⟨by decide +kernel, by decide +kernel⟩, List.mem_of_getElem? (i := 170) (by decide +kernel), List.mem_of_getElem? (i := 459) (by decide +kernel), List.mem_of_getElem? (i := 460) (by decide +kernel)⟩
theorem lw_p10 : lw_okq (⟨"RiverSteamers$River", "isBale", "(I)Z"⟩, 16) := ⟨⟨by decide +kernel, by decide +kernel⟩, List.mem_of_getElem? (i := 27) (by decide +kernel), List.mem_of_getElem? (i := 467) (by decide +kernel), List.mem_of_getElem? (i := 468) (by decide +kernel)⟩
theorem lw_p11 : lw_okq (⟨"RiverSteamers$River", "isBoat", "(I)Z"⟩, 16) := ⟨⟨by decide +kernel, by decide +kernel⟩, List.mem_of_getElem? (i := 27) (by decide +kernel), List.mem_of_getElem? (i := 471) (by decide +kernel), List.mem_of_getElem? (i := 472) (by decide +kernel)⟩
theorem lw_p12 : lw_okq (⟨"RiverSteamers$Boat", "draught", "()I"⟩, 10) := ⟨⟨by decide +kernel, by decide +kernel⟩, List.mem_of_getElem? (i := 117) (by decide +kernel), List.mem_of_getElem? (i := 475) (by decide +kernel), List.mem_of_getElem? (i := 476) (by decide +kernel)⟩
theorem lw_p13 : lw_okq (⟨"RiverSteamers$Boat", "draughtWith", "(I)I"⟩, 10) := ⟨⟨by decide +kernel, by decide +kernel⟩, List.mem_of_getElem? (i := 117) (by decide +kernel), List.mem_of_getElem? (i := 479) (by decide +kernel), List.mem_of_getElem? (i := 480) (by decide +kernel)⟩
theorem lw_p14 : lw_okq (⟨"RiverSteamers$River", "carrierOf", "(LRiverSteamers$Bale;)LRiverSteamers$Boat;"⟩, 16) := ⟨⟨by decide +kernel, by decide +kernel⟩, List.mem_of_getElem? (i := 27) (by decide +kernel), List.mem_of_getElem? (i := 487) (by decide +kernel), List.mem_of_getElem? (i := 488) (by decide +kernel)⟩
theorem lw_p15 : lw_okq (⟨"RiverSteamers$River", "whyNot", "(LRiverSteamers$Boat;Z)I"⟩, 16) := ⟨⟨by decide +kernel, by decide +kernel⟩, List.mem_of_getElem? (i := 27) (by decide +kernel), List.mem_of_getElem? (i := 500) (by decide +kernel), List.mem_of_getElem? (i := 501) (by decide +kernel)⟩
def lw_privs_1 : List (MethodName × Nat) := [(⟨"RiverSteamers", "refused", "(I)I"⟩, 8), (⟨"RiverSteamers$Stretch", "begin", "(IIII)V"⟩, 6), (⟨"RiverSteamers", "done", "(I)I"⟩, 8), (⟨"RiverSteamers$River", "tellHeight", "(II)V"⟩, 16), (⟨"RiverSteamers$River", "isStretch", "(I)Z"⟩, 16), (⟨"RiverSteamers$River", "isLanding", "(I)Z"⟩, 16), (⟨"RiverSteamers$Boat", "begin", "(IIII)V"⟩, 10), (⟨"RiverSteamers$Words", "forgetAll", "()V"⟩, 2), (⟨"RiverSteamers$River", "isWay", "(II)Z"⟩, 16), (⟨"RiverSteamers$Bale", "begin", "(IIII)V"⟩, 5), (⟨"RiverSteamers$River", "isBale", "(I)Z"⟩, 16), (⟨"RiverSteamers$River", "isBoat", "(I)Z"⟩, 16), (⟨"RiverSteamers$Boat", "draught", "()I"⟩, 10), (⟨"RiverSteamers$Boat", "draughtWith", "(I)I"⟩, 10), (⟨"RiverSteamers$River", "carrierOf", "(LRiverSteamers$Bale;)LRiverSteamers$Boat;"⟩, 16), (⟨"RiverSteamers$River", "whyNot", "(LRiverSteamers$Boat;Z)I"⟩, 16)]
theorem lw_r1 : ∀ q ∈ lw_privs_1, lw_okq q := List.forall_mem_cons.mpr ⟨lw_p0, List.forall_mem_cons.mpr ⟨lw_p1, List.forall_mem_cons.mpr ⟨lw_p2, List.forall_mem_cons.mpr ⟨lw_p3, List.forall_mem_cons.mpr ⟨lw_p4, List.forall_mem_cons.mpr ⟨lw_p5, List.forall_mem_cons.mpr ⟨lw_p6, List.forall_mem_cons.mpr ⟨lw_p7, List.forall_mem_cons.mpr ⟨lw_p8, List.forall_mem_cons.mpr ⟨lw_p9, List.forall_mem_cons.mpr ⟨lw_p10, List.forall_mem_cons.mpr ⟨lw_p11, List.forall_mem_cons.mpr ⟨lw_p12, List.forall_mem_cons.mpr ⟨lw_p13, List.forall_mem_cons.mpr ⟨lw_p14, List.forall_mem_cons.mpr ⟨lw_p15, fun _ h => absurd h List.not_mem_nil⟩⟩⟩⟩⟩⟩⟩⟩⟩⟩⟩⟩⟩⟩⟩⟩
theorem lw_p16 : lw_okq (⟨"RiverSteamers$Boat", "stretchToward", "(Z)I"⟩, 10) := ⟨⟨by decide +kernel, by decide +kernel⟩, List.mem_of_getElem? (i := 117) (by decide +kernel), List.mem_of_getElem? (i := 504) (by decide +kernel), List.mem_of_getElem? (i := 505) (by decide +kernel)⟩
theorem lw_p17 : lw_okq (⟨"RiverSteamers$Words", "isKnown", "(I)Z"⟩, 2) := ⟨⟨by decide +kernel, by decide +kernel⟩, List.mem_of_getElem? (i := 92) (by decide +kernel), List.mem_of_getElem? (i := 509) (by decide +kernel), List.mem_of_getElem? (i := 510) (by decide +kernel)⟩
theorem lw_p18 : lw_okq (⟨"RiverSteamers$River", "longNow", "(I)I"⟩, 16) := ⟨⟨by decide +kernel, by decide +kernel⟩, List.mem_of_getElem? (i := 27) (by decide +kernel), List.mem_of_getElem? (i := 514) (by decide +kernel), List.mem_of_getElem? (i := 515) (by decide +kernel)⟩
theorem lw_p19 : lw_okq (⟨"RiverSteamers$River", "isNight", "()Z"⟩, 16) := ⟨⟨by decide +kernel, by decide +kernel⟩, List.mem_of_getElem? (i := 27) (by decide +kernel), List.mem_of_getElem? (i := 518) (by decide +kernel), List.mem_of_getElem? (i := 519) (by decide +kernel)⟩
theorem lw_p20 : lw_okq (⟨"RiverSteamers$River", "longByDaylight", "(I)I"⟩, 16) := ⟨⟨by decide +kernel, by decide +kernel⟩, List.mem_of_getElem? (i := 27) (by decide +kernel), List.mem_of_getElem? (i := 522) (by decide +kernel), List.mem_of_getElem? (i := 523) (by decide +kernel)⟩
theorem lw_p21 : lw_okq (⟨"RiverSteamers$River", "today", "()I"⟩, 16) := ⟨⟨by decide +kernel, by decide +kernel⟩, List.mem_of_getElem? (i := 27) (by decide +kernel), List.mem_of_getElem? (i := 526) (by decide +kernel), List.mem_of_getElem? (i := 527) (by decide +kernel)⟩
theorem lw_p22 : lw_okq (⟨"RiverSteamers$River", "heightOn", "(I)I"⟩, 16) := ⟨⟨by decide +kernel, by decide +kernel⟩, List.mem_of_getElem? (i := 27) (by decide +kernel), List.mem_of_getElem? (i := 530) (by decide +kernel), List.mem_of_getElem? (i := 531) (by decide +kernel)⟩
theorem lw_p23 : lw_okq (⟨"RiverSteamers$River", "setOut", "(LRiverSteamers$Boat;Z)I"⟩, 16) := ⟨⟨by decide +kernel, by decide +kernel⟩, List.mem_of_getElem? (i := 27) (by decide +kernel), List.mem_of_getElem? (i := 534) (by decide +kernel), List.mem_of_getElem? (i := 535) (by decide +kernel)⟩
theorem lw_p24 : lw_okq (⟨"RiverSteamers$River", "waterOn", "(II)I"⟩, 16) := ⟨⟨by decide +kernel, by decide +kernel⟩, List.mem_of_getElem? (i := 27) (by decide +kernel), List.mem_of_getElem? (i := 538) (by decide +kernel), List.mem_of_getElem? (i := 539) (by decide +kernel)⟩
theorem lw_p25 : lw_okq (⟨"RiverSteamers$Stretch", "shiftOn", "(I)I"⟩, 6) := ⟨⟨by decide +kernel, by decide +kernel⟩, List.mem_of_getElem? (i := 47) (by decide +kernel), List.mem_of_getElem? (i := 542) (by decide +kernel), List.mem_of_getElem? (i := 543) (by decide +kernel)⟩
theorem lw_p26 : lw_okq (⟨"RiverSteamers$Words", "learn", "(III)V"⟩, 2) := ⟨⟨by decide +kernel, by decide +kernel⟩, List.mem_of_getElem? (i := 92) (by decide +kernel), List.mem_of_getElem? (i := 546) (by decide +kernel), List.mem_of_getElem? (i := 547) (by decide +kernel)⟩
theorem lw_p27 : lw_okq (⟨"RiverSteamers$River", "comeTo", "(LRiverSteamers$Boat;I)V"⟩, 16) := ⟨⟨by decide +kernel, by decide +kernel⟩, List.mem_of_getElem? (i := 27) (by decide +kernel), List.mem_of_getElem? (i := 556) (by decide +kernel), List.mem_of_getElem? (i := 557) (by decide +kernel)⟩
theorem lw_p28 : lw_okq (⟨"RiverSteamers$Words", "exchange", "(LRiverSteamers$Words;)V"⟩, 2) := ⟨⟨by decide +kernel, by decide +kernel⟩, List.mem_of_getElem? (i := 92) (by decide +kernel), List.mem_of_getElem? (i := 560) (by decide +kernel), List.mem_of_getElem? (i := 561) (by decide +kernel)⟩
theorem lw_p29 : lw_okq (⟨"RiverSteamers$River", "goOneQuarter", "()V"⟩, 16) := ⟨⟨by decide +kernel, by decide +kernel⟩, List.mem_of_getElem? (i := 27) (by decide +kernel), List.mem_of_getElem? (i := 569) (by decide +kernel), List.mem_of_getElem? (i := 570) (by decide +kernel)⟩
theorem lw_p30 : lw_okq (⟨"RiverSteamers$Boat", "isUnderWay", "()Z"⟩, 10) := ⟨⟨by decide +kernel, by decide +kernel⟩, List.mem_of_getElem? (i := 117) (by decide +kernel), List.mem_of_getElem? (i := 573) (by decide +kernel), List.mem_of_getElem? (i := 574) (by decide +kernel)⟩
theorem lw_p31 : lw_okq (⟨"RiverSteamers$Trip", "begin", "(III)V"⟩, 3) := ⟨⟨by decide +kernel, by decide +kernel⟩, List.mem_of_getElem? (i := 198) (by decide +kernel), List.mem_of_getElem? (i := 590) (by decide +kernel), List.mem_of_getElem? (i := 591) (by decide +kernel)⟩
def lw_privs_2 : List (MethodName × Nat) := [(⟨"RiverSteamers$Boat", "stretchToward", "(Z)I"⟩, 10), (⟨"RiverSteamers$Words", "isKnown", "(I)Z"⟩, 2), (⟨"RiverSteamers$River", "longNow", "(I)I"⟩, 16), (⟨"RiverSteamers$River", "isNight", "()Z"⟩, 16), (⟨"RiverSteamers$River", "longByDaylight", "(I)I"⟩, 16), (⟨"RiverSteamers$River", "today", "()I"⟩, 16), (⟨"RiverSteamers$River", "heightOn", "(I)I"⟩, 16), (⟨"RiverSteamers$River", "setOut", "(LRiverSteamers$Boat;Z)I"⟩, 16), (⟨"RiverSteamers$River", "waterOn", "(II)I"⟩, 16), (⟨"RiverSteamers$Stretch", "shiftOn", "(I)I"⟩, 6), (⟨"RiverSteamers$Words", "learn", "(III)V"⟩, 2), (⟨"RiverSteamers$River", "comeTo", "(LRiverSteamers$Boat;I)V"⟩, 16), (⟨"RiverSteamers$Words", "exchange", "(LRiverSteamers$Words;)V"⟩, 2), (⟨"RiverSteamers$River", "goOneQuarter", "()V"⟩, 16), (⟨"RiverSteamers$Boat", "isUnderWay", "()Z"⟩, 10), (⟨"RiverSteamers$Trip", "begin", "(III)V"⟩, 3)]
theorem lw_r2 : ∀ q ∈ lw_privs_2, lw_okq q := List.forall_mem_cons.mpr ⟨lw_p16, List.forall_mem_cons.mpr ⟨lw_p17, List.forall_mem_cons.mpr ⟨lw_p18, List.forall_mem_cons.mpr ⟨lw_p19, List.forall_mem_cons.mpr ⟨lw_p20, List.forall_mem_cons.mpr ⟨lw_p21, List.forall_mem_cons.mpr ⟨lw_p22, List.forall_mem_cons.mpr ⟨lw_p23, List.forall_mem_cons.mpr ⟨lw_p24, List.forall_mem_cons.mpr ⟨lw_p25, List.forall_mem_cons.mpr ⟨lw_p26, List.forall_mem_cons.mpr ⟨lw_p27, List.forall_mem_cons.mpr ⟨lw_p28, List.forall_mem_cons.mpr ⟨lw_p29, List.forall_mem_cons.mpr ⟨lw_p30, List.forall_mem_cons.mpr ⟨lw_p31, fun _ h => absurd h List.not_mem_nil⟩⟩⟩⟩⟩⟩⟩⟩⟩⟩⟩⟩⟩⟩⟩⟩
theorem lw_p32 : lw_okq (⟨"RiverSteamers$Rule", "begin", "(IIII)V"⟩, 4) := ⟨⟨by decide +kernel, by decide +kernel⟩, List.mem_of_getElem? (i := 214) (by decide +kernel), List.mem_of_getElem? (i := 598) (by decide +kernel), List.mem_of_getElem? (i := 599) (by decide +kernel)⟩
theorem lw_p33 : lw_okq (⟨"RiverSteamers$River", "copyFrom", "(LRiverSteamers$River;)V"⟩, 16) := ⟨⟨by decide +kernel, by decide +kernel⟩, List.mem_of_getElem? (i := 27) (by decide +kernel), List.mem_of_getElem? (i := 606) (by decide +kernel), List.mem_of_getElem? (i := 607) (by decide +kernel)⟩
theorem lw_p34 : lw_okq (⟨"RiverSteamers$River", "copyThings", "(LRiverSteamers$River;)V"⟩, 16) := ⟨⟨by decide +kernel, by decide +kernel⟩, List.mem_of_getElem? (i := 27) (by decide +kernel), List.mem_of_getElem? (i := 613) (by decide +kernel), List.mem_of_getElem? (i := 614) (by decide +kernel)⟩
theorem lw_p35 : lw_okq (⟨"RiverSteamers$Stretch", "copyFrom", "(LRiverSteamers$Stretch;)V"⟩, 6) := ⟨⟨by decide +kernel, by decide +kernel⟩, List.mem_of_getElem? (i := 47) (by decide +kernel), List.mem_of_getElem? (i := 617) (by decide +kernel), List.mem_of_getElem? (i := 618) (by decide +kernel)⟩
theorem lw_p36 : lw_okq (⟨"RiverSteamers$Landing", "copyFrom", "(LRiverSteamers$Landing;)V"⟩, 2) := ⟨⟨by decide +kernel, by decide +kernel⟩, List.mem_of_getElem? (i := 86) (by decide +kernel), List.mem_of_getElem? (i := 622) (by decide +kernel), List.mem_of_getElem? (i := 623) (by decide +kernel)⟩
theorem lw_p37 : lw_okq (⟨"RiverSteamers$Words", "copyFrom", "(LRiverSteamers$Words;)V"⟩, 2) := ⟨⟨by decide +kernel, by decide +kernel⟩, List.mem_of_getElem? (i := 92) (by decide +kernel), List.mem_of_getElem? (i := 626) (by decide +kernel), List.mem_of_getElem? (i := 627) (by decide +kernel)⟩
theorem lw_p38 : lw_okq (⟨"RiverSteamers$Boat", "copyFrom", "(LRiverSteamers$Boat;)V"⟩, 10) := ⟨⟨by decide +kernel, by decide +kernel⟩, List.mem_of_getElem? (i := 117) (by decide +kernel), List.mem_of_getElem? (i := 631) (by decide +kernel), List.mem_of_getElem? (i := 632) (by decide +kernel)⟩
theorem lw_p39 : lw_okq (⟨"RiverSteamers$Bale", "copyFrom", "(LRiverSteamers$Bale;)V"⟩, 5) := ⟨⟨by decide +kernel, by decide +kernel⟩, List.mem_of_getElem? (i := 170) (by decide +kernel), List.mem_of_getElem? (i := 636) (by decide +kernel), List.mem_of_getElem? (i := 637) (by decide +kernel)⟩
theorem lw_p40 : lw_okq (⟨"RiverSteamers$Trip", "copyFrom", "(LRiverSteamers$Trip;)V"⟩, 3) := ⟨⟨by decide +kernel, by decide +kernel⟩, List.mem_of_getElem? (i := 198) (by decide +kernel), List.mem_of_getElem? (i := 640) (by decide +kernel), List.mem_of_getElem? (i := 641) (by decide +kernel)⟩
theorem lw_p41 : lw_okq (⟨"RiverSteamers$Rule", "copyFrom", "(LRiverSteamers$Rule;)V"⟩, 4) := ⟨⟨by decide +kernel, by decide +kernel⟩, List.mem_of_getElem? (i := 214) (by decide +kernel), List.mem_of_getElem? (i := 645) (by decide +kernel), List.mem_of_getElem? (i := 646) (by decide +kernel)⟩
theorem lw_p42 : lw_okq (⟨"RiverSteamers$Words", "toldOf", "(II)I"⟩, 2) := ⟨⟨by decide +kernel, by decide +kernel⟩, List.mem_of_getElem? (i := 92) (by decide +kernel), List.mem_of_getElem? (i := 686) (by decide +kernel), List.mem_of_getElem? (i := 687) (by decide +kernel)⟩
theorem lw_p43 : lw_okq (⟨"RiverSteamers", "listBalesAt", "(I)I"⟩, 8) := ⟨⟨by decide +kernel, by decide +kernel⟩, List.mem_of_getElem? (i := 19) (by decide +kernel), List.mem_of_getElem? (i := 700) (by decide +kernel), List.mem_of_getElem? (i := 701) (by decide +kernel)⟩
theorem lw_p44 : lw_okq (⟨"RiverSteamers", "bestSet", "(LRiverSteamers$Boat;II)I"⟩, 8) := ⟨⟨by decide +kernel, by decide +kernel⟩, List.mem_of_getElem? (i := 19) (by decide +kernel), List.mem_of_getElem? (i := 704) (by decide +kernel), List.mem_of_getElem? (i := 705) (by decide +kernel)⟩
theorem lw_p45 : lw_okq (⟨"RiverSteamers$Boat", "canTake", "(II)Z"⟩, 10) := ⟨⟨by decide +kernel, by decide +kernel⟩, List.mem_of_getElem? (i := 117) (by decide +kernel), List.mem_of_getElem? (i := 708) (by decide +kernel), List.mem_of_getElem? (i := 709) (by decide +kernel)⟩
theorem lw_p46 : lw_okq (⟨"RiverSteamers$Wooding", "workOut", "(LRiverSteamers$River;III)V"⟩, 5) := ⟨⟨by decide +kernel, by decide +kernel⟩, List.mem_of_getElem? (i := 317) (by decide +kernel), List.mem_of_getElem? (i := 716) (by decide +kernel), List.mem_of_getElem? (i := 717) (by decide +kernel)⟩
theorem lw_p47 : lw_okq (⟨"RiverSteamers$Wooding", "workOutStep", "(I)V"⟩, 5) := ⟨⟨by decide +kernel, by decide +kernel⟩, List.mem_of_getElem? (i := 317) (by decide +kernel), List.mem_of_getElem? (i := 724) (by decide +kernel), List.mem_of_getElem? (i := 725) (by decide +kernel)⟩
def lw_privs_3 : List (MethodName × Nat) := [(⟨"RiverSteamers$Rule", "begin", "(IIII)V"⟩, 4), (⟨"RiverSteamers$River", "copyFrom", "(LRiverSteamers$River;)V"⟩, 16), (⟨"RiverSteamers$River", "copyThings", "(LRiverSteamers$River;)V"⟩, 16), (⟨"RiverSteamers$Stretch", "copyFrom", "(LRiverSteamers$Stretch;)V"⟩, 6), (⟨"RiverSteamers$Landing", "copyFrom", "(LRiverSteamers$Landing;)V"⟩, 2), (⟨"RiverSteamers$Words", "copyFrom", "(LRiverSteamers$Words;)V"⟩, 2), (⟨"RiverSteamers$Boat", "copyFrom", "(LRiverSteamers$Boat;)V"⟩, 10), (⟨"RiverSteamers$Bale", "copyFrom", "(LRiverSteamers$Bale;)V"⟩, 5), (⟨"RiverSteamers$Trip", "copyFrom", "(LRiverSteamers$Trip;)V"⟩, 3), (⟨"RiverSteamers$Rule", "copyFrom", "(LRiverSteamers$Rule;)V"⟩, 4), (⟨"RiverSteamers$Words", "toldOf", "(II)I"⟩, 2), (⟨"RiverSteamers", "listBalesAt", "(I)I"⟩, 8), (⟨"RiverSteamers", "bestSet", "(LRiverSteamers$Boat;II)I"⟩, 8), (⟨"RiverSteamers$Boat", "canTake", "(II)Z"⟩, 10), (⟨"RiverSteamers$Wooding", "workOut", "(LRiverSteamers$River;III)V"⟩, 5), (⟨"RiverSteamers$Wooding", "workOutStep", "(I)V"⟩, 5)]
theorem lw_r3 : ∀ q ∈ lw_privs_3, lw_okq q := List.forall_mem_cons.mpr ⟨lw_p32, List.forall_mem_cons.mpr ⟨lw_p33, List.forall_mem_cons.mpr ⟨lw_p34, List.forall_mem_cons.mpr ⟨lw_p35, List.forall_mem_cons.mpr ⟨lw_p36, List.forall_mem_cons.mpr ⟨lw_p37, List.forall_mem_cons.mpr ⟨lw_p38, List.forall_mem_cons.mpr ⟨lw_p39, List.forall_mem_cons.mpr ⟨lw_p40, List.forall_mem_cons.mpr ⟨lw_p41, List.forall_mem_cons.mpr ⟨lw_p42, List.forall_mem_cons.mpr ⟨lw_p43, List.forall_mem_cons.mpr ⟨lw_p44, List.forall_mem_cons.mpr ⟨lw_p45, List.forall_mem_cons.mpr ⟨lw_p46, List.forall_mem_cons.mpr ⟨lw_p47, fun _ h => absurd h List.not_mem_nil⟩⟩⟩⟩⟩⟩⟩⟩⟩⟩⟩⟩⟩⟩⟩⟩
theorem lw_p48 : lw_okq (⟨"RiverSteamers$Wooding", "costOnward", "(II)I"⟩, 5) := ⟨⟨by decide +kernel, by decide +kernel⟩, List.mem_of_getElem? (i := 317) (by decide +kernel), List.mem_of_getElem? (i := 729) (by decide +kernel), List.mem_of_getElem? (i := 730) (by decide +kernel)⟩
theorem lw_p49 : lw_okq (⟨"RiverSteamers$Wooding", "leastCost", "()I"⟩, 5) := ⟨⟨by decide +kernel, by decide +kernel⟩, List.mem_of_getElem? (i := 317) (by decide +kernel), List.mem_of_getElem? (i := 736) (by decide +kernel), List.mem_of_getElem? (i := 737) (by decide +kernel)⟩
theorem lw_p50 : lw_okq (⟨"RiverSteamers$Wooding", "cordsAt", "(I)I"⟩, 5) := ⟨⟨by decide +kernel, by decide +kernel⟩, List.mem_of_getElem? (i := 317) (by decide +kernel), List.mem_of_getElem? (i := 744) (by decide +kernel), List.mem_of_getElem? (i := 745) (by decide +kernel)⟩
theorem lw_p51 : lw_okq (⟨"RiverSteamers$Wooding", "cordsFrom", "(II)I"⟩, 5) := ⟨⟨by decide +kernel, by decide +kernel⟩, List.mem_of_getElem? (i := 317) (by decide +kernel), List.mem_of_getElem? (i := 749) (by decide +kernel), List.mem_of_getElem? (i := 750) (by decide +kernel)⟩
theorem lw_p52 : lw_okq (⟨"RiverSteamers$River", "darkCrossings", "()I"⟩, 16) := ⟨⟨by decide +kernel, by decide +kernel⟩, List.mem_of_getElem? (i := 27) (by decide +kernel), List.mem_of_getElem? (i := 757) (by decide +kernel), List.mem_of_getElem? (i := 758) (by decide +kernel)⟩
theorem lw_p53 : lw_okq (⟨"RiverSteamers$River", "tripsBear", "(I)Z"⟩, 16) := ⟨⟨by decide +kernel, by decide +kernel⟩, List.mem_of_getElem? (i := 27) (by decide +kernel), List.mem_of_getElem? (i := 767) (by decide +kernel), List.mem_of_getElem? (i := 768) (by decide +kernel)⟩
theorem lw_p54 : lw_okq (⟨"RiverSteamers$Trip", "wayBits", "()I"⟩, 3) := ⟨⟨by decide +kernel, by decide +kernel⟩, List.mem_of_getElem? (i := 198) (by decide +kernel), List.mem_of_getElem? (i := 771) (by decide +kernel), List.mem_of_getElem? (i := 772) (by decide +kernel)⟩
theorem lw_p55 : lw_okq (⟨"RiverSteamers$Rule", "isInForce", "(I)Z"⟩, 4) := ⟨⟨by decide +kernel, by decide +kernel⟩, List.mem_of_getElem? (i := 214) (by decide +kernel), List.mem_of_getElem? (i := 784) (by decide +kernel), List.mem_of_getElem? (i := 785) (by decide +kernel)⟩
theorem lw_p56 : lw_okq (⟨"RiverSteamers", "yieldingBy", "(IIIZZ)I"⟩, 8) := ⟨⟨by decide +kernel, by decide +kernel⟩, List.mem_of_getElem? (i := 19) (by decide +kernel), List.mem_of_getElem? (i := 789) (by decide +kernel), List.mem_of_getElem? (i := 790) (by decide +kernel)⟩
theorem lw_p57 : lw_okq (⟨"RiverSteamers$River", "boatsAground", "()I"⟩, 16) := ⟨⟨by decide +kernel, by decide +kernel⟩, List.mem_of_getElem? (i := 27) (by decide +kernel), List.mem_of_getElem? (i := 798) (by decide +kernel), List.mem_of_getElem? (i := 799) (by decide +kernel)⟩
theorem lw_p58 : lw_okq (⟨"RiverSteamers$Acts", "begin", "(LRiverSteamers$Stretch;II)I"⟩, 2) := ⟨⟨by decide +kernel, by decide +kernel⟩, List.mem_of_getElem? (i := 302) (by decide +kernel), List.mem_of_getElem? (i := 807) (by decide +kernel), List.mem_of_getElem? (i := 808) (by decide +kernel)⟩
theorem lw_p59 : lw_okq (⟨"RiverSteamers$Acts", "run", "(LRiverSteamers$Stretch;IIII)I"⟩, 2) := ⟨⟨by decide +kernel, by decide +kernel⟩, List.mem_of_getElem? (i := 302) (by decide +kernel), List.mem_of_getElem? (i := 811) (by decide +kernel), List.mem_of_getElem? (i := 812) (by decide +kernel)⟩
theorem lw_p60 : lw_okq (⟨"RiverSteamers$Acts", "note", "(I)V"⟩, 2) := ⟨⟨by decide +kernel, by decide +kernel⟩, List.mem_of_getElem? (i := 302) (by decide +kernel), List.mem_of_getElem? (i := 821) (by decide +kernel), List.mem_of_getElem? (i := 822) (by decide +kernel)⟩
theorem lw_p61 : lw_okq (⟨"RiverSteamers$Sheet", "begin", "(II)V"⟩, 3) := ⟨⟨by decide +kernel, by decide +kernel⟩, List.mem_of_getElem? (i := 338) (by decide +kernel), List.mem_of_getElem? (i := 836) (by decide +kernel), List.mem_of_getElem? (i := 837) (by decide +kernel)⟩
theorem lw_p62 : lw_okq (⟨"RiverSteamers$Sheet", "isMissing", "()Z"⟩, 3) := ⟨⟨by decide +kernel, by decide +kernel⟩, List.mem_of_getElem? (i := 338) (by decide +kernel), List.mem_of_getElem? (i := 845) (by decide +kernel), List.mem_of_getElem? (i := 846) (by decide +kernel)⟩
theorem lw_p63 : lw_okq (⟨"RiverSteamers$Sheet", "hasPlace", "(I)Z"⟩, 3) := ⟨⟨by decide +kernel, by decide +kernel⟩, List.mem_of_getElem? (i := 338) (by decide +kernel), List.mem_of_getElem? (i := 849) (by decide +kernel), List.mem_of_getElem? (i := 850) (by decide +kernel)⟩
def lw_privs_4 : List (MethodName × Nat) := [(⟨"RiverSteamers$Wooding", "costOnward", "(II)I"⟩, 5), (⟨"RiverSteamers$Wooding", "leastCost", "()I"⟩, 5), (⟨"RiverSteamers$Wooding", "cordsAt", "(I)I"⟩, 5), (⟨"RiverSteamers$Wooding", "cordsFrom", "(II)I"⟩, 5), (⟨"RiverSteamers$River", "darkCrossings", "()I"⟩, 16), (⟨"RiverSteamers$River", "tripsBear", "(I)Z"⟩, 16), (⟨"RiverSteamers$Trip", "wayBits", "()I"⟩, 3), (⟨"RiverSteamers$Rule", "isInForce", "(I)Z"⟩, 4), (⟨"RiverSteamers", "yieldingBy", "(IIIZZ)I"⟩, 8), (⟨"RiverSteamers$River", "boatsAground", "()I"⟩, 16), (⟨"RiverSteamers$Acts", "begin", "(LRiverSteamers$Stretch;II)I"⟩, 2), (⟨"RiverSteamers$Acts", "run", "(LRiverSteamers$Stretch;IIII)I"⟩, 2), (⟨"RiverSteamers$Acts", "note", "(I)V"⟩, 2), (⟨"RiverSteamers$Sheet", "begin", "(II)V"⟩, 3), (⟨"RiverSteamers$Sheet", "isMissing", "()Z"⟩, 3), (⟨"RiverSteamers$Sheet", "hasPlace", "(I)Z"⟩, 3)]
theorem lw_r4 : ∀ q ∈ lw_privs_4, lw_okq q := List.forall_mem_cons.mpr ⟨lw_p48, List.forall_mem_cons.mpr ⟨lw_p49, List.forall_mem_cons.mpr ⟨lw_p50, List.forall_mem_cons.mpr ⟨lw_p51, List.forall_mem_cons.mpr ⟨lw_p52, List.forall_mem_cons.mpr ⟨lw_p53, List.forall_mem_cons.mpr ⟨lw_p54, List.forall_mem_cons.mpr ⟨lw_p55, List.forall_mem_cons.mpr ⟨lw_p56, List.forall_mem_cons.mpr ⟨lw_p57, List.forall_mem_cons.mpr ⟨lw_p58, List.forall_mem_cons.mpr ⟨lw_p59, List.forall_mem_cons.mpr ⟨lw_p60, List.forall_mem_cons.mpr ⟨lw_p61, List.forall_mem_cons.mpr ⟨lw_p62, List.forall_mem_cons.mpr ⟨lw_p63, fun _ h => absurd h List.not_mem_nil⟩⟩⟩⟩⟩⟩⟩⟩⟩⟩⟩⟩⟩⟩⟩⟩
theorem lw_p64 : lw_okq (⟨"RiverSteamers$Sheet", "put", "(II)V"⟩, 3) := ⟨⟨by decide +kernel, by decide +kernel⟩, List.mem_of_getElem? (i := 338) (by decide +kernel), List.mem_of_getElem? (i := 854) (by decide +kernel), List.mem_of_getElem? (i := 855) (by decide +kernel)⟩
theorem lw_p65 : lw_okq (⟨"RiverSteamers$Sheet", "faultAs", "(I)I"⟩, 3) := ⟨⟨by decide +kernel, by decide +kernel⟩, List.mem_of_getElem? (i := 338) (by decide +kernel), List.mem_of_getElem? (i := 862) (by decide +kernel), List.mem_of_getElem? (i := 863) (by decide +kernel)⟩
theorem lw_p66 : lw_okq (⟨"RiverSteamers", "tellFromFloat", "(II)V"⟩, 8) := ⟨⟨by decide +kernel, by decide +kernel⟩, List.mem_of_getElem? (i := 19) (by decide +kernel), List.mem_of_getElem? (i := 871) (by decide +kernel), List.mem_of_getElem? (i := 872) (by decide +kernel)⟩
theorem lw_p67 : lw_okq (⟨"RiverSteamers", "forgeKind", "(II)I"⟩, 8) := ⟨⟨by decide +kernel, by decide +kernel⟩, List.mem_of_getElem? (i := 19) (by decide +kernel), List.mem_of_getElem? (i := 882) (by decide +kernel), List.mem_of_getElem? (i := 883) (by decide +kernel)⟩
theorem lw_p68 : lw_okq (⟨"RiverSteamers", "forgeShort", "(LRiverSteamers$Sheet;I)I"⟩, 8) := ⟨⟨by decide +kernel, by decide +kernel⟩, List.mem_of_getElem? (i := 19) (by decide +kernel), List.mem_of_getElem? (i := 886) (by decide +kernel), List.mem_of_getElem? (i := 887) (by decide +kernel)⟩
theorem lw_p69 : lw_okq (⟨"RiverSteamers", "forgeCopy", "(LRiverSteamers$Sheet;I)I"⟩, 8) := ⟨⟨by decide +kernel, by decide +kernel⟩, List.mem_of_getElem? (i := 19) (by decide +kernel), List.mem_of_getElem? (i := 890) (by decide +kernel), List.mem_of_getElem? (i := 891) (by decide +kernel)⟩
theorem lw_p70 : lw_okq (⟨"RiverSteamers", "forgeRow", "(I)I"⟩, 8) := ⟨⟨by decide +kernel, by decide +kernel⟩, List.mem_of_getElem? (i := 19) (by decide +kernel), List.mem_of_getElem? (i := 894) (by decide +kernel), List.mem_of_getElem? (i := 895) (by decide +kernel)⟩
theorem lw_p71 : lw_okq (⟨"RiverSteamersModel", "refused", "(I)I"⟩, 64) := ⟨⟨by decide +kernel, by decide +kernel⟩, List.mem_of_getElem? (i := 902) (by decide +kernel), List.mem_of_getElem? (i := 1108) (by decide +kernel), List.mem_of_getElem? (i := 1109) (by decide +kernel)⟩
theorem lw_p72 : lw_okq (⟨"RiverSteamersModel", "done", "(I)I"⟩, 64) := ⟨⟨by decide +kernel, by decide +kernel⟩, List.mem_of_getElem? (i := 902) (by decide +kernel), List.mem_of_getElem? (i := 1112) (by decide +kernel), List.mem_of_getElem? (i := 1113) (by decide +kernel)⟩
theorem lw_p73 : lw_okq (⟨"RiverSteamersModel", "told", "()I"⟩, 64) := ⟨⟨by decide +kernel, by decide +kernel⟩, List.mem_of_getElem? (i := 902) (by decide +kernel), List.mem_of_getElem? (i := 1123) (by decide +kernel), List.mem_of_getElem? (i := 1124) (by decide +kernel)⟩
theorem lw_p74 : lw_okq (⟨"RiverSteamersModel", "isStretch", "(I)Z"⟩, 64) := ⟨⟨by decide +kernel, by decide +kernel⟩, List.mem_of_getElem? (i := 902) (by decide +kernel), List.mem_of_getElem? (i := 1131) (by decide +kernel), List.mem_of_getElem? (i := 1132) (by decide +kernel)⟩
theorem lw_p75 : lw_okq (⟨"RiverSteamersModel", "isBar", "(I)Z"⟩, 64) := ⟨⟨by decide +kernel, by decide +kernel⟩, List.mem_of_getElem? (i := 902) (by decide +kernel), List.mem_of_getElem? (i := 1135) (by decide +kernel), List.mem_of_getElem? (i := 1136) (by decide +kernel)⟩
theorem lw_p76 : lw_okq (⟨"RiverSteamersModel", "heightOf", "(I)I"⟩, 64) := ⟨⟨by decide +kernel, by decide +kernel⟩, List.mem_of_getElem? (i := 902) (by decide +kernel), List.mem_of_getElem? (i := 1151) (by decide +kernel), List.mem_of_getElem? (i := 1152) (by decide +kernel)⟩
theorem lw_p77 : lw_okq (⟨"RiverSteamersModel", "waterOf", "(II)I"⟩, 64) := ⟨⟨by decide +kernel, by decide +kernel⟩, List.mem_of_getElem? (i := 902) (by decide +kernel), List.mem_of_getElem? (i := 1159) (by decide +kernel), List.mem_of_getElem? (i := 1160) (by decide +kernel)⟩
theorem lw_p78 : lw_okq (⟨"RiverSteamersModel", "shiftOf", "(II)I"⟩, 64) := ⟨⟨by decide +kernel, by decide +kernel⟩, List.mem_of_getElem? (i := 902) (by decide +kernel), List.mem_of_getElem? (i := 1163) (by decide +kernel), List.mem_of_getElem? (i := 1164) (by decide +kernel)⟩
theorem lw_p79 : lw_okq (⟨"RiverSteamersModel", "today", "()I"⟩, 64) := ⟨⟨by decide +kernel, by decide +kernel⟩, List.mem_of_getElem? (i := 902) (by decide +kernel), List.mem_of_getElem? (i := 1171) (by decide +kernel), List.mem_of_getElem? (i := 1172) (by decide +kernel)⟩
def lw_privs_5 : List (MethodName × Nat) := [(⟨"RiverSteamers$Sheet", "put", "(II)V"⟩, 3), (⟨"RiverSteamers$Sheet", "faultAs", "(I)I"⟩, 3), (⟨"RiverSteamers", "tellFromFloat", "(II)V"⟩, 8), (⟨"RiverSteamers", "forgeKind", "(II)I"⟩, 8), (⟨"RiverSteamers", "forgeShort", "(LRiverSteamers$Sheet;I)I"⟩, 8), (⟨"RiverSteamers", "forgeCopy", "(LRiverSteamers$Sheet;I)I"⟩, 8), (⟨"RiverSteamers", "forgeRow", "(I)I"⟩, 8), (⟨"RiverSteamersModel", "refused", "(I)I"⟩, 64), (⟨"RiverSteamersModel", "done", "(I)I"⟩, 64), (⟨"RiverSteamersModel", "told", "()I"⟩, 64), (⟨"RiverSteamersModel", "isStretch", "(I)Z"⟩, 64), (⟨"RiverSteamersModel", "isBar", "(I)Z"⟩, 64), (⟨"RiverSteamersModel", "heightOf", "(I)I"⟩, 64), (⟨"RiverSteamersModel", "waterOf", "(II)I"⟩, 64), (⟨"RiverSteamersModel", "shiftOf", "(II)I"⟩, 64), (⟨"RiverSteamersModel", "today", "()I"⟩, 64)]
theorem lw_r5 : ∀ q ∈ lw_privs_5, lw_okq q := List.forall_mem_cons.mpr ⟨lw_p64, List.forall_mem_cons.mpr ⟨lw_p65, List.forall_mem_cons.mpr ⟨lw_p66, List.forall_mem_cons.mpr ⟨lw_p67, List.forall_mem_cons.mpr ⟨lw_p68, List.forall_mem_cons.mpr ⟨lw_p69, List.forall_mem_cons.mpr ⟨lw_p70, List.forall_mem_cons.mpr ⟨lw_p71, List.forall_mem_cons.mpr ⟨lw_p72, List.forall_mem_cons.mpr ⟨lw_p73, List.forall_mem_cons.mpr ⟨lw_p74, List.forall_mem_cons.mpr ⟨lw_p75, List.forall_mem_cons.mpr ⟨lw_p76, List.forall_mem_cons.mpr ⟨lw_p77, List.forall_mem_cons.mpr ⟨lw_p78, List.forall_mem_cons.mpr ⟨lw_p79, fun _ h => absurd h List.not_mem_nil⟩⟩⟩⟩⟩⟩⟩⟩⟩⟩⟩⟩⟩⟩⟩⟩
theorem lw_p80 : lw_okq (⟨"RiverSteamersModel", "isNight", "()Z"⟩, 64) := ⟨⟨by decide +kernel, by decide +kernel⟩, List.mem_of_getElem? (i := 902) (by decide +kernel), List.mem_of_getElem? (i := 1175) (by decide +kernel), List.mem_of_getElem? (i := 1176) (by decide +kernel)⟩
theorem lw_p81 : lw_okq (⟨"RiverSteamersModel", "longOf", "(IZ)I"⟩, 64) := ⟨⟨by decide +kernel, by decide +kernel⟩, List.mem_of_getElem? (i := 902) (by decide +kernel), List.mem_of_getElem? (i := 1179) (by decide +kernel), List.mem_of_getElem? (i := 1180) (by decide +kernel)⟩
theorem lw_p82 : lw_okq (⟨"RiverSteamersModel", "isLanding", "(I)Z"⟩, 64) := ⟨⟨by decide +kernel, by decide +kernel⟩, List.mem_of_getElem? (i := 902) (by decide +kernel), List.mem_of_getElem? (i := 1187) (by decide +kernel), List.mem_of_getElem? (i := 1188) (by decide +kernel)⟩
theorem lw_p83 : lw_okq (⟨"RiverSteamersModel", "isBale", "(I)Z"⟩, 64) := ⟨⟨by decide +kernel, by decide +kernel⟩, List.mem_of_getElem? (i := 902) (by decide +kernel), List.mem_of_getElem? (i := 1199) (by decide +kernel), List.mem_of_getElem? (i := 1200) (by decide +kernel)⟩
theorem lw_p84 : lw_okq (⟨"RiverSteamersModel", "isBoat", "(I)Z"⟩, 64) := ⟨⟨by decide +kernel, by decide +kernel⟩, List.mem_of_getElem? (i := 902) (by decide +kernel), List.mem_of_getElem? (i := 1203) (by decide +kernel), List.mem_of_getElem? (i := 1204) (by decide +kernel)⟩
theorem lw_p85 : lw_okq (⟨"RiverSteamersModel", "aboard", "(I)I"⟩, 64) := ⟨⟨by decide +kernel, by decide +kernel⟩, List.mem_of_getElem? (i := 902) (by decide +kernel), List.mem_of_getElem? (i := 1207) (by decide +kernel), List.mem_of_getElem? (i := 1208) (by decide +kernel)⟩
theorem lw_p86 : lw_okq (⟨"RiverSteamersModel", "draught", "(I)I"⟩, 64) := ⟨⟨by decide +kernel, by decide +kernel⟩, List.mem_of_getElem? (i := 902) (by decide +kernel), List.mem_of_getElem? (i := 1211) (by decide +kernel), List.mem_of_getElem? (i := 1212) (by decide +kernel)⟩
theorem lw_p87 : lw_okq (⟨"RiverSteamersModel", "whyNot", "(IZ)I"⟩, 64) := ⟨⟨by decide +kernel, by decide +kernel⟩, List.mem_of_getElem? (i := 902) (by decide +kernel), List.mem_of_getElem? (i := 1227) (by decide +kernel), List.mem_of_getElem? (i := 1228) (by decide +kernel)⟩
theorem lw_p88 : lw_okq (⟨"RiverSteamersModel", "ahead", "(IZ)I"⟩, 64) := ⟨⟨by decide +kernel, by decide +kernel⟩, List.mem_of_getElem? (i := 902) (by decide +kernel), List.mem_of_getElem? (i := 1231) (by decide +kernel), List.mem_of_getElem? (i := 1232) (by decide +kernel)⟩
theorem lw_p89 : lw_okq (⟨"RiverSteamersModel", "comes", "(II)V"⟩, 64) := ⟨⟨by decide +kernel, by decide +kernel⟩, List.mem_of_getElem? (i := 902) (by decide +kernel), List.mem_of_getElem? (i := 1243) (by decide +kernel), List.mem_of_getElem? (i := 1244) (by decide +kernel)⟩
theorem lw_p90 : lw_okq (⟨"RiverSteamersModel", "hears", "(II)V"⟩, 64) := ⟨⟨by decide +kernel, by decide +kernel⟩, List.mem_of_getElem? (i := 902) (by decide +kernel), List.mem_of_getElem? (i := 1247) (by decide +kernel), List.mem_of_getElem? (i := 1248) (by decide +kernel)⟩
theorem lw_p91 : lw_okq (⟨"RiverSteamersModel", "word", "(II)I"⟩, 64) := ⟨⟨by decide +kernel, by decide +kernel⟩, List.mem_of_getElem? (i := 902) (by decide +kernel), List.mem_of_getElem? (i := 1259) (by decide +kernel), List.mem_of_getElem? (i := 1260) (by decide +kernel)⟩
theorem lw_p92 : lw_okq (⟨"RiverSteamersModel", "sumOf", "(IZ)I"⟩, 64) := ⟨⟨by decide +kernel, by decide +kernel⟩, List.mem_of_getElem? (i := 902) (by decide +kernel), List.mem_of_getElem? (i := 1279) (by decide +kernel), List.mem_of_getElem? (i := 1280) (by decide +kernel)⟩
theorem lw_p93 : lw_okq (⟨"RiverSteamersModel", "findWood", "(III)I"⟩, 64) := ⟨⟨by decide +kernel, by decide +kernel⟩, List.mem_of_getElem? (i := 902) (by decide +kernel), List.mem_of_getElem? (i := 1295) (by decide +kernel), List.mem_of_getElem? (i := 1296) (by decide +kernel)⟩
theorem lw_p94 : lw_okq (⟨"RiverSteamersModel", "buysAt", "(IIIII)V"⟩, 64) := ⟨⟨by decide +kernel, by decide +kernel⟩, List.mem_of_getElem? (i := 902) (by decide +kernel), List.mem_of_getElem? (i := 1299) (by decide +kernel), List.mem_of_getElem? (i := 1300) (by decide +kernel)⟩
theorem lw_p95 : lw_okq (⟨"RiverSteamersModel", "helps", "(I)Z"⟩, 64) := ⟨⟨by decide +kernel, by decide +kernel⟩, List.mem_of_getElem? (i := 902) (by decide +kernel), List.mem_of_getElem? (i := 1326) (by decide +kernel), List.mem_of_getElem? (i := 1327) (by decide +kernel)⟩
def lw_privs_6 : List (MethodName × Nat) := [(⟨"RiverSteamersModel", "isNight", "()Z"⟩, 64), (⟨"RiverSteamersModel", "longOf", "(IZ)I"⟩, 64), (⟨"RiverSteamersModel", "isLanding", "(I)Z"⟩, 64), (⟨"RiverSteamersModel", "isBale", "(I)Z"⟩, 64), (⟨"RiverSteamersModel", "isBoat", "(I)Z"⟩, 64), (⟨"RiverSteamersModel", "aboard", "(I)I"⟩, 64), (⟨"RiverSteamersModel", "draught", "(I)I"⟩, 64), (⟨"RiverSteamersModel", "whyNot", "(IZ)I"⟩, 64), (⟨"RiverSteamersModel", "ahead", "(IZ)I"⟩, 64), (⟨"RiverSteamersModel", "comes", "(II)V"⟩, 64), (⟨"RiverSteamersModel", "hears", "(II)V"⟩, 64), (⟨"RiverSteamersModel", "word", "(II)I"⟩, 64), (⟨"RiverSteamersModel", "sumOf", "(IZ)I"⟩, 64), (⟨"RiverSteamersModel", "findWood", "(III)I"⟩, 64), (⟨"RiverSteamersModel", "buysAt", "(IIIII)V"⟩, 64), (⟨"RiverSteamersModel", "helps", "(I)Z"⟩, 64)]
theorem lw_r6 : ∀ q ∈ lw_privs_6, lw_okq q := List.forall_mem_cons.mpr ⟨lw_p80, List.forall_mem_cons.mpr ⟨lw_p81, List.forall_mem_cons.mpr ⟨lw_p82, List.forall_mem_cons.mpr ⟨lw_p83, List.forall_mem_cons.mpr ⟨lw_p84, List.forall_mem_cons.mpr ⟨lw_p85, List.forall_mem_cons.mpr ⟨lw_p86, List.forall_mem_cons.mpr ⟨lw_p87, List.forall_mem_cons.mpr ⟨lw_p88, List.forall_mem_cons.mpr ⟨lw_p89, List.forall_mem_cons.mpr ⟨lw_p90, List.forall_mem_cons.mpr ⟨lw_p91, List.forall_mem_cons.mpr ⟨lw_p92, List.forall_mem_cons.mpr ⟨lw_p93, List.forall_mem_cons.mpr ⟨lw_p94, List.forall_mem_cons.mpr ⟨lw_p95, fun _ h => absurd h List.not_mem_nil⟩⟩⟩⟩⟩⟩⟩⟩⟩⟩⟩⟩⟩⟩⟩⟩
theorem lw_p96 : lw_okq (⟨"RiverSteamersModel", "tells", "(IIIZZ)I"⟩, 64) := ⟨⟨by decide +kernel, by decide +kernel⟩, List.mem_of_getElem? (i := 902) (by decide +kernel), List.mem_of_getElem? (i := 1341) (by decide +kernel), List.mem_of_getElem? (i := 1342) (by decide +kernel)⟩
theorem lw_p97 : lw_okq (⟨"RiverSteamersModel", "lay", "()V"⟩, 64) := ⟨⟨by decide +kernel, by decide +kernel⟩, List.mem_of_getElem? (i := 902) (by decide +kernel), List.mem_of_getElem? (i := 1353) (by decide +kernel), List.mem_of_getElem? (i := 1354) (by decide +kernel)⟩
theorem lw_p98 : lw_okq (⟨"RiverSteamersModel", "bearOf", "(II)I"⟩, 64) := ⟨⟨by decide +kernel, by decide +kernel⟩, List.mem_of_getElem? (i := 902) (by decide +kernel), List.mem_of_getElem? (i := 1365) (by decide +kernel), List.mem_of_getElem? (i := 1366) (by decide +kernel)⟩
theorem lw_p99 : lw_okq (⟨"RiverSteamersModel", "ran", "(I)V"⟩, 64) := ⟨⟨by decide +kernel, by decide +kernel⟩, List.mem_of_getElem? (i := 902) (by decide +kernel), List.mem_of_getElem? (i := 1369) (by decide +kernel), List.mem_of_getElem? (i := 1370) (by decide +kernel)⟩
theorem lw_p100 : lw_okq (⟨"RiverSteamersModel", "bear20", "(II)I"⟩, 64) := ⟨⟨by decide +kernel, by decide +kernel⟩, List.mem_of_getElem? (i := 902) (by decide +kernel), List.mem_of_getElem? (i := 1373) (by decide +kernel), List.mem_of_getElem? (i := 1374) (by decide +kernel)⟩
theorem lw_p101 : lw_okq (⟨"RiverSteamersModel", "bear10", "(II)I"⟩, 64) := ⟨⟨by decide +kernel, by decide +kernel⟩, List.mem_of_getElem? (i := 902) (by decide +kernel), List.mem_of_getElem? (i := 1377) (by decide +kernel), List.mem_of_getElem? (i := 1378) (by decide +kernel)⟩
theorem lw_p102 : lw_okq (⟨"RiverSteamersModel", "moveOf", "(II)I"⟩, 64) := ⟨⟨by decide +kernel, by decide +kernel⟩, List.mem_of_getElem? (i := 902) (by decide +kernel), List.mem_of_getElem? (i := 1381) (by decide +kernel), List.mem_of_getElem? (i := 1382) (by decide +kernel)⟩
theorem lw_p103 : lw_okq (⟨"RiverSteamersModel", "move11", "(II)I"⟩, 64) := ⟨⟨by decide +kernel, by decide +kernel⟩, List.mem_of_getElem? (i := 902) (by decide +kernel), List.mem_of_getElem? (i := 1385) (by decide +kernel), List.mem_of_getElem? (i := 1386) (by decide +kernel)⟩
theorem lw_p104 : lw_okq (⟨"RiverSteamersModel", "barOf", "(II)I"⟩, 64) := ⟨⟨by decide +kernel, by decide +kernel⟩, List.mem_of_getElem? (i := 902) (by decide +kernel), List.mem_of_getElem? (i := 1389) (by decide +kernel), List.mem_of_getElem? (i := 1390) (by decide +kernel)⟩
theorem lw_p105 : lw_okq (⟨"RiverSteamersModel", "bar12", "(II)I"⟩, 64) := ⟨⟨by decide +kernel, by decide +kernel⟩, List.mem_of_getElem? (i := 902) (by decide +kernel), List.mem_of_getElem? (i := 1393) (by decide +kernel), List.mem_of_getElem? (i := 1394) (by decide +kernel)⟩
theorem lw_p106 : lw_okq (⟨"RiverSteamersModel", "tellOf", "(II)I"⟩, 64) := ⟨⟨by decide +kernel, by decide +kernel⟩, List.mem_of_getElem? (i := 902) (by decide +kernel), List.mem_of_getElem? (i := 1397) (by decide +kernel), List.mem_of_getElem? (i := 1398) (by decide +kernel)⟩
theorem lw_p107 : lw_okq (⟨"RiverSteamersModel", "tell13", "(II)I"⟩, 64) := ⟨⟨by decide +kernel, by decide +kernel⟩, List.mem_of_getElem? (i := 902) (by decide +kernel), List.mem_of_getElem? (i := 1401) (by decide +kernel), List.mem_of_getElem? (i := 1402) (by decide +kernel)⟩
theorem lw_p108 : lw_okq (⟨"RiverSteamersModel", "shorts", "(II)I"⟩, 64) := ⟨⟨by decide +kernel, by decide +kernel⟩, List.mem_of_getElem? (i := 902) (by decide +kernel), List.mem_of_getElem? (i := 1432) (by decide +kernel), List.mem_of_getElem? (i := 1433) (by decide +kernel)⟩
theorem lw_p109 : lw_okq (⟨"RiverSteamersModel", "copied", "(II)I"⟩, 64) := ⟨⟨by decide +kernel, by decide +kernel⟩, List.mem_of_getElem? (i := 902) (by decide +kernel), List.mem_of_getElem? (i := 1436) (by decide +kernel), List.mem_of_getElem? (i := 1437) (by decide +kernel)⟩
def lw_privs_7 : List (MethodName × Nat) := [(⟨"RiverSteamersModel", "tells", "(IIIZZ)I"⟩, 64), (⟨"RiverSteamersModel", "lay", "()V"⟩, 64), (⟨"RiverSteamersModel", "bearOf", "(II)I"⟩, 64), (⟨"RiverSteamersModel", "ran", "(I)V"⟩, 64), (⟨"RiverSteamersModel", "bear20", "(II)I"⟩, 64), (⟨"RiverSteamersModel", "bear10", "(II)I"⟩, 64), (⟨"RiverSteamersModel", "moveOf", "(II)I"⟩, 64), (⟨"RiverSteamersModel", "move11", "(II)I"⟩, 64), (⟨"RiverSteamersModel", "barOf", "(II)I"⟩, 64), (⟨"RiverSteamersModel", "bar12", "(II)I"⟩, 64), (⟨"RiverSteamersModel", "tellOf", "(II)I"⟩, 64), (⟨"RiverSteamersModel", "tell13", "(II)I"⟩, 64), (⟨"RiverSteamersModel", "shorts", "(II)I"⟩, 64), (⟨"RiverSteamersModel", "copied", "(II)I"⟩, 64)]
theorem lw_r7 : ∀ q ∈ lw_privs_7, lw_okq q := List.forall_mem_cons.mpr ⟨lw_p96, List.forall_mem_cons.mpr ⟨lw_p97, List.forall_mem_cons.mpr ⟨lw_p98, List.forall_mem_cons.mpr ⟨lw_p99, List.forall_mem_cons.mpr ⟨lw_p100, List.forall_mem_cons.mpr ⟨lw_p101, List.forall_mem_cons.mpr ⟨lw_p102, List.forall_mem_cons.mpr ⟨lw_p103, List.forall_mem_cons.mpr ⟨lw_p104, List.forall_mem_cons.mpr ⟨lw_p105, List.forall_mem_cons.mpr ⟨lw_p106, List.forall_mem_cons.mpr ⟨lw_p107, List.forall_mem_cons.mpr ⟨lw_p108, List.forall_mem_cons.mpr ⟨lw_p109, fun _ h => absurd h List.not_mem_nil⟩⟩⟩⟩⟩⟩⟩⟩⟩⟩⟩⟩⟩⟩
def lw_privs : List (MethodName × Nat) := lw_privs_1 ++ (lw_privs_2 ++ (lw_privs_3 ++ (lw_privs_4 ++ (lw_privs_5 ++ (lw_privs_6 ++ (lw_privs_7))))))
def lw_tbl : List Cond := k2_sels lw_privs ++ tables_1
theorem lw_privs_ok : ∀ q ∈ lw_privs, lw_okq q := by
  show ∀ q ∈ lw_privs_1 ++ (lw_privs_2 ++ (lw_privs_3 ++ (lw_privs_4 ++ (lw_privs_5 ++ (lw_privs_6 ++ (lw_privs_7)))))), lw_okq q
  exact List.forall_mem_append.mpr ⟨lw_r1, List.forall_mem_append.mpr ⟨lw_r2, List.forall_mem_append.mpr ⟨lw_r3, List.forall_mem_append.mpr ⟨lw_r4, List.forall_mem_append.mpr ⟨lw_r5, List.forall_mem_append.mpr ⟨lw_r6, lw_r7⟩⟩⟩⟩⟩⟩
end
section
theorem sub_p {big ws : List Cond} (ps : List Nat) (h : ps.filterMap (fun i => big[i]?) = ws) : ∀ w ∈ ws, w ∈ big := by
  intro w hw
  rw [← h] at hw
  obtain ⟨i, -, hi⟩ := List.mem_filterMap.mp hw
  exact List.mem_of_getElem? hi
def RX0 : String := "RiverSteamers$Acts"
def TX0 : u_T := fun k => match k with
  | 0 => ("RiverSteamers$Acts", "bodyCount", "I", false)
  | _ => ("RiverSteamers$Acts", "bodies", "[I", true)
def tyX0 : Nat → FieldType := fun k => match k with
  | 0 => .int
  | _ => .array .int
abbrev wsX00 : List Cond := u_ws RX0 TX0 2
theorem nmX0 : ∀ a, a < 2 → ∀ b, b < 2 → a ≠ b → (TX0 a).2.1 ≠ (TX0 b).2.1 := by decide +kernel
theorem tyX0_ok : ∀ k, k < 2 → parseFieldDescriptor (TX0 k).2.2.1 = some (tyX0 k) := by decide +kernel
abbrev cX0_init : ByteArray := prog_2_method_1_code
def yX0_init : MethodName := ⟨RX0, "<init>", "()V"⟩
abbrev cX0_begin : ByteArray := prog_2_method_2_code
def yX0_begin : MethodName := ⟨RX0, "begin", "(LRiverSteamers$Stretch;II)I"⟩
abbrev cX0_kindWithBody : ByteArray := prog_2_method_3_code
def yX0_kindWithBody : MethodName := ⟨RX0, "kindWithBody", "(II)I"⟩
abbrev cX0_note : ByteArray := prog_2_method_4_code
def yX0_note : MethodName := ⟨RX0, "note", "(I)V"⟩
abbrev cX0_run : ByteArray := prog_2_method_5_code
def yX0_run : MethodName := ⟨RX0, "run", "(LRiverSteamers$Stretch;IIII)I"⟩
def RX1 : String := "RiverSteamers$Bale"
def TX1 : u_T := fun k => match k with
  | 0 => ("RiverSteamers$Bale", "to", "I", false)
  | 1 => ("RiverSteamers$Bale", "weight", "I", false)
  | 2 => ("RiverSteamers$Bale", "rate", "I", false)
  | 3 => ("RiverSteamers$Bale", "how", "I", false)
  | _ => ("RiverSteamers$Bale", "place", "I", false)
def tyX1 : Nat → FieldType := fun k => match k with
  | 0 => .int
  | 1 => .int
  | 2 => .int
  | 3 => .int
  | _ => .int
abbrev wsX10 : List Cond := u_ws RX1 TX1 5
theorem nmX1 : ∀ a, a < 5 → ∀ b, b < 5 → a ≠ b → (TX1 a).2.1 ≠ (TX1 b).2.1 := by decide +kernel
theorem tyX1_ok : ∀ k, k < 5 → parseFieldDescriptor (TX1 k).2.2.1 = some (tyX1 k) := by decide +kernel
abbrev cX1_init : ByteArray := prog_3_method_1_code
def yX1_init : MethodName := ⟨RX1, "<init>", "()V"⟩
abbrev cX1_begin : ByteArray := prog_3_method_2_code
def yX1_begin : MethodName := ⟨RX1, "begin", "(IIII)V"⟩
abbrev cX1_copyFrom : ByteArray := prog_3_method_3_code
def yX1_copyFrom : MethodName := ⟨RX1, "copyFrom", "(LRiverSteamers$Bale;)V"⟩
def RX2 : String := "RiverSteamers$Boat"
def TX2 : u_T := fun k => match k with
  | 0 => ("RiverSteamers$Boat", "hull", "I", false)
  | 1 => ("RiverSteamers$Boat", "room", "I", false)
  | 2 => ("RiverSteamers$Boat", "tank", "I", false)
  | 3 => ("RiverSteamers$Boat", "cords", "I", false)
  | 4 => ("RiverSteamers$Boat", "load", "I", false)
  | 5 => ("RiverSteamers$Boat", "how", "I", false)
  | 6 => ("RiverSteamers$Boat", "place", "I", false)
  | 7 => ("RiverSteamers$Boat", "leftFrom", "I", false)
  | 8 => ("RiverSteamers$Boat", "until", "I", false)
  | _ => ("RiverSteamers$Boat", "words", "LRiverSteamers$Words;", true)
def tyX2 : Nat → FieldType := fun k => match k with
  | 0 => .int
  | 1 => .int
  | 2 => .int
  | 3 => .int
  | 4 => .int
  | 5 => .int
  | 6 => .int
  | 7 => .int
  | 8 => .int
  | _ => .object "RiverSteamers$Words"
abbrev wsX20 : List Cond := u_ws RX2 TX2 10
theorem nmX2 : ∀ a, a < 10 → ∀ b, b < 10 → a ≠ b → (TX2 a).2.1 ≠ (TX2 b).2.1 := by decide +kernel
theorem tyX2_ok : ∀ k, k < 10 → parseFieldDescriptor (TX2 k).2.2.1 = some (tyX2 k) := by decide +kernel
abbrev cX2_init : ByteArray := prog_4_method_1_code
def yX2_init : MethodName := ⟨RX2, "<init>", "()V"⟩
abbrev cX2_begin : ByteArray := prog_4_method_2_code
def yX2_begin : MethodName := ⟨RX2, "begin", "(IIII)V"⟩
abbrev cX2_copyFrom : ByteArray := prog_4_method_3_code
def yX2_copyFrom : MethodName := ⟨RX2, "copyFrom", "(LRiverSteamers$Boat;)V"⟩
abbrev cX2_isUnderWay : ByteArray := prog_4_method_4_code
def yX2_isUnderWay : MethodName := ⟨RX2, "isUnderWay", "()Z"⟩
abbrev cX2_stretchToward : ByteArray := prog_4_method_5_code
def yX2_stretchToward : MethodName := ⟨RX2, "stretchToward", "(Z)I"⟩
abbrev cX2_draught : ByteArray := prog_4_method_6_code
def yX2_draught : MethodName := ⟨RX2, "draught", "()I"⟩
abbrev cX2_draughtWith : ByteArray := prog_4_method_7_code
def yX2_draughtWith : MethodName := ⟨RX2, "draughtWith", "(I)I"⟩
abbrev cX2_canTake : ByteArray := prog_4_method_8_code
def yX2_canTake : MethodName := ⟨RX2, "canTake", "(II)Z"⟩
def RX3 : String := "RiverSteamers$Landing"
def TX3 : u_T := fun k => match k with
  | 0 => ("RiverSteamers$Landing", "price", "I", false)
  | _ => ("RiverSteamers$Landing", "words", "LRiverSteamers$Words;", true)
def tyX3 : Nat → FieldType := fun k => match k with
  | 0 => .int
  | _ => .object "RiverSteamers$Words"
abbrev wsX30 : List Cond := u_ws RX3 TX3 2
theorem nmX3 : ∀ a, a < 2 → ∀ b, b < 2 → a ≠ b → (TX3 a).2.1 ≠ (TX3 b).2.1 := by decide +kernel
theorem tyX3_ok : ∀ k, k < 2 → parseFieldDescriptor (TX3 k).2.2.1 = some (tyX3 k) := by decide +kernel
abbrev cX3_init : ByteArray := prog_5_method_1_code
def yX3_init : MethodName := ⟨RX3, "<init>", "()V"⟩
abbrev cX3_copyFrom : ByteArray := prog_5_method_2_code
def yX3_copyFrom : MethodName := ⟨RX3, "copyFrom", "(LRiverSteamers$Landing;)V"⟩
def RX4 : String := "RiverSteamers$River"
def TX4 : u_T := fun k => match k with
  | 0 => ("RiverSteamers$River", "quarter", "I", false)
  | 1 => ("RiverSteamers$River", "stretchCount", "I", false)
  | 2 => ("RiverSteamers$River", "boatCount", "I", false)
  | 3 => ("RiverSteamers$River", "baleCount", "I", false)
  | 4 => ("RiverSteamers$River", "tripCount", "I", false)
  | 5 => ("RiverSteamers$River", "ruleCount", "I", false)
  | 6 => ("RiverSteamers$River", "daysTold", "I", false)
  | 7 => ("RiverSteamers$River", "paidRates", "I", false)
  | 8 => ("RiverSteamers$River", "heights", "[I", true)
  | 9 => ("RiverSteamers$River", "coldDays", "[Z", true)
  | 10 => ("RiverSteamers$River", "stretches", "[LRiverSteamers$Stretch;", true)
  | 11 => ("RiverSteamers$River", "landings", "[LRiverSteamers$Landing;", true)
  | 12 => ("RiverSteamers$River", "boats", "[LRiverSteamers$Boat;", true)
  | 13 => ("RiverSteamers$River", "bales", "[LRiverSteamers$Bale;", true)
  | 14 => ("RiverSteamers$River", "trips", "[LRiverSteamers$Trip;", true)
  | _ => ("RiverSteamers$River", "rules", "[LRiverSteamers$Rule;", true)
def tyX4 : Nat → FieldType := fun k => match k with
  | 0 => .int
  | 1 => .int
  | 2 => .int
  | 3 => .int
  | 4 => .int
  | 5 => .int
  | 6 => .int
  | 7 => .int
  | 8 => .array .int
  | 9 => .array .boolean
  | 10 => .array (.object "RiverSteamers$Stretch")
  | 11 => .array (.object "RiverSteamers$Landing")
  | 12 => .array (.object "RiverSteamers$Boat")
  | 13 => .array (.object "RiverSteamers$Bale")
  | 14 => .array (.object "RiverSteamers$Trip")
  | _ => .array (.object "RiverSteamers$Rule")
abbrev wsX40 : List Cond := u_ws RX4 TX4 16
theorem nmX4 : ∀ a, a < 16 → ∀ b, b < 16 → a ≠ b → (TX4 a).2.1 ≠ (TX4 b).2.1 := by decide +kernel
theorem tyX4_ok : ∀ k, k < 16 → parseFieldDescriptor (TX4 k).2.2.1 = some (tyX4 k) := by decide +kernel
abbrev cX4_init : ByteArray := prog_6_method_1_code
def yX4_init : MethodName := ⟨RX4, "<init>", "()V"⟩
abbrev cX4_copyFrom : ByteArray := prog_6_method_2_code
def yX4_copyFrom : MethodName := ⟨RX4, "copyFrom", "(LRiverSteamers$River;)V"⟩
abbrev cX4_copyThings : ByteArray := prog_6_method_3_code
def yX4_copyThings : MethodName := ⟨RX4, "copyThings", "(LRiverSteamers$River;)V"⟩
abbrev cX4_isStretch : ByteArray := prog_6_method_4_code
def yX4_isStretch : MethodName := ⟨RX4, "isStretch", "(I)Z"⟩
abbrev cX4_isLanding : ByteArray := prog_6_method_5_code
def yX4_isLanding : MethodName := ⟨RX4, "isLanding", "(I)Z"⟩
abbrev cX4_isBoat : ByteArray := prog_6_method_6_code
def yX4_isBoat : MethodName := ⟨RX4, "isBoat", "(I)Z"⟩
abbrev cX4_isBale : ByteArray := prog_6_method_7_code
def yX4_isBale : MethodName := ⟨RX4, "isBale", "(I)Z"⟩
abbrev cX4_isWay : ByteArray := prog_6_method_8_code
def yX4_isWay : MethodName := ⟨RX4, "isWay", "(II)Z"⟩
abbrev cX4_today : ByteArray := prog_6_method_9_code
def yX4_today : MethodName := ⟨RX4, "today", "()I"⟩
abbrev cX4_isNight : ByteArray := prog_6_method_10_code
def yX4_isNight : MethodName := ⟨RX4, "isNight", "()Z"⟩
abbrev cX4_tellHeight : ByteArray := prog_6_method_11_code
def yX4_tellHeight : MethodName := ⟨RX4, "tellHeight", "(II)V"⟩
abbrev cX4_heightOn : ByteArray := prog_6_method_12_code
def yX4_heightOn : MethodName := ⟨RX4, "heightOn", "(I)I"⟩
abbrev cX4_waterOn : ByteArray := prog_6_method_13_code
def yX4_waterOn : MethodName := ⟨RX4, "waterOn", "(II)I"⟩
abbrev cX4_longNow : ByteArray := prog_6_method_14_code
def yX4_longNow : MethodName := ⟨RX4, "longNow", "(I)I"⟩
abbrev cX4_longByDaylight : ByteArray := prog_6_method_15_code
def yX4_longByDaylight : MethodName := ⟨RX4, "longByDaylight", "(I)I"⟩
abbrev cX4_whyNot : ByteArray := prog_6_method_16_code
def yX4_whyNot : MethodName := ⟨RX4, "whyNot", "(LRiverSteamers$Boat;Z)I"⟩
abbrev cX4_setOut : ByteArray := prog_6_method_17_code
def yX4_setOut : MethodName := ⟨RX4, "setOut", "(LRiverSteamers$Boat;Z)I"⟩
abbrev cX4_goOneQuarter : ByteArray := prog_6_method_18_code
def yX4_goOneQuarter : MethodName := ⟨RX4, "goOneQuarter", "()V"⟩
abbrev cX4_comeTo : ByteArray := prog_6_method_19_code
def yX4_comeTo : MethodName := ⟨RX4, "comeTo", "(LRiverSteamers$Boat;I)V"⟩
abbrev cX4_carrierOf : ByteArray := prog_6_method_20_code
def yX4_carrierOf : MethodName := ⟨RX4, "carrierOf", "(LRiverSteamers$Bale;)LRiverSteamers$Boat;"⟩
abbrev cX4_boatsAground : ByteArray := prog_6_method_21_code
def yX4_boatsAground : MethodName := ⟨RX4, "boatsAground", "()I"⟩
abbrev cX4_darkCrossings : ByteArray := prog_6_method_22_code
def yX4_darkCrossings : MethodName := ⟨RX4, "darkCrossings", "()I"⟩
abbrev cX4_tripsBear : ByteArray := prog_6_method_23_code
def yX4_tripsBear : MethodName := ⟨RX4, "tripsBear", "(I)Z"⟩
def RX5 : String := "RiverSteamers$Rule"
def TX5 : u_T := fun k => match k with
  | 0 => ("RiverSteamers$Rule", "kind", "I", false)
  | 1 => ("RiverSteamers$Rule", "how", "I", false)
  | 2 => ("RiverSteamers$Rule", "firstDay", "I", false)
  | _ => ("RiverSteamers$Rule", "lastDay", "I", false)
def tyX5 : Nat → FieldType := fun k => match k with
  | 0 => .int
  | 1 => .int
  | 2 => .int
  | _ => .int
abbrev wsX50 : List Cond := u_ws RX5 TX5 4
theorem nmX5 : ∀ a, a < 4 → ∀ b, b < 4 → a ≠ b → (TX5 a).2.1 ≠ (TX5 b).2.1 := by decide +kernel
theorem tyX5_ok : ∀ k, k < 4 → parseFieldDescriptor (TX5 k).2.2.1 = some (tyX5 k) := by decide +kernel
abbrev cX5_init : ByteArray := prog_7_method_1_code
def yX5_init : MethodName := ⟨RX5, "<init>", "()V"⟩
abbrev cX5_begin : ByteArray := prog_7_method_2_code
def yX5_begin : MethodName := ⟨RX5, "begin", "(IIII)V"⟩
abbrev cX5_copyFrom : ByteArray := prog_7_method_3_code
def yX5_copyFrom : MethodName := ⟨RX5, "copyFrom", "(LRiverSteamers$Rule;)V"⟩
abbrev cX5_isInForce : ByteArray := prog_7_method_4_code
def yX5_isInForce : MethodName := ⟨RX5, "isInForce", "(I)Z"⟩
def RX6 : String := "RiverSteamers$Sheet"
def TX6 : u_T := fun k => match k with
  | 0 => ("RiverSteamers$Sheet", "sort", "I", false)
  | 1 => ("RiverSteamers$Sheet", "size", "I", false)
  | _ => ("RiverSteamers$Sheet", "numbers", "[I", true)
def tyX6 : Nat → FieldType := fun k => match k with
  | 0 => .int
  | 1 => .int
  | _ => .array .int
abbrev wsX60 : List Cond := u_ws RX6 TX6 3
theorem nmX6 : ∀ a, a < 3 → ∀ b, b < 3 → a ≠ b → (TX6 a).2.1 ≠ (TX6 b).2.1 := by decide +kernel
theorem tyX6_ok : ∀ k, k < 3 → parseFieldDescriptor (TX6 k).2.2.1 = some (tyX6 k) := by decide +kernel
abbrev cX6_init : ByteArray := prog_8_method_1_code
def yX6_init : MethodName := ⟨RX6, "<init>", "()V"⟩
abbrev cX6_begin : ByteArray := prog_8_method_2_code
def yX6_begin : MethodName := ⟨RX6, "begin", "(II)V"⟩
abbrev cX6_isMissing : ByteArray := prog_8_method_3_code
def yX6_isMissing : MethodName := ⟨RX6, "isMissing", "()Z"⟩
abbrev cX6_hasPlace : ByteArray := prog_8_method_4_code
def yX6_hasPlace : MethodName := ⟨RX6, "hasPlace", "(I)Z"⟩
abbrev cX6_faultAs : ByteArray := prog_8_method_5_code
def yX6_faultAs : MethodName := ⟨RX6, "faultAs", "(I)I"⟩
abbrev cX6_put : ByteArray := prog_8_method_6_code
def yX6_put : MethodName := ⟨RX6, "put", "(II)V"⟩
def RX7 : String := "RiverSteamers$Stretch"
def TX7 : u_T := fun k => match k with
  | 0 => ("RiverSteamers$Stretch", "number", "I", false)
  | 1 => ("RiverSteamers$Stretch", "kind", "I", false)
  | 2 => ("RiverSteamers$Stretch", "length", "I", false)
  | 3 => ("RiverSteamers$Stretch", "depth", "I", false)
  | 4 => ("RiverSteamers$Stretch", "lit", "Z", false)
  | _ => ("RiverSteamers$Stretch", "shifts", "[I", true)
def tyX7 : Nat → FieldType := fun k => match k with
  | 0 => .int
  | 1 => .int
  | 2 => .int
  | 3 => .int
  | 4 => .boolean
  | _ => .array .int
abbrev wsX70 : List Cond := u_ws RX7 TX7 6
theorem nmX7 : ∀ a, a < 6 → ∀ b, b < 6 → a ≠ b → (TX7 a).2.1 ≠ (TX7 b).2.1 := by decide +kernel
theorem tyX7_ok : ∀ k, k < 6 → parseFieldDescriptor (TX7 k).2.2.1 = some (tyX7 k) := by decide +kernel
abbrev cX7_init : ByteArray := prog_9_method_1_code
def yX7_init : MethodName := ⟨RX7, "<init>", "()V"⟩
abbrev cX7_begin : ByteArray := prog_9_method_2_code
def yX7_begin : MethodName := ⟨RX7, "begin", "(IIII)V"⟩
abbrev cX7_copyFrom : ByteArray := prog_9_method_3_code
def yX7_copyFrom : MethodName := ⟨RX7, "copyFrom", "(LRiverSteamers$Stretch;)V"⟩
abbrev cX7_shiftOn : ByteArray := prog_9_method_4_code
def yX7_shiftOn : MethodName := ⟨RX7, "shiftOn", "(I)I"⟩
def RX8 : String := "RiverSteamers$Trip"
def TX8 : u_T := fun k => match k with
  | 0 => ("RiverSteamers$Trip", "from", "I", false)
  | 1 => ("RiverSteamers$Trip", "to", "I", false)
  | _ => ("RiverSteamers$Trip", "waits", "I", false)
def tyX8 : Nat → FieldType := fun k => match k with
  | 0 => .int
  | 1 => .int
  | _ => .int
abbrev wsX80 : List Cond := u_ws RX8 TX8 3
theorem nmX8 : ∀ a, a < 3 → ∀ b, b < 3 → a ≠ b → (TX8 a).2.1 ≠ (TX8 b).2.1 := by decide +kernel
theorem tyX8_ok : ∀ k, k < 3 → parseFieldDescriptor (TX8 k).2.2.1 = some (tyX8 k) := by decide +kernel
abbrev cX8_init : ByteArray := prog_10_method_1_code
def yX8_init : MethodName := ⟨RX8, "<init>", "()V"⟩
abbrev cX8_begin : ByteArray := prog_10_method_2_code
def yX8_begin : MethodName := ⟨RX8, "begin", "(III)V"⟩
abbrev cX8_copyFrom : ByteArray := prog_10_method_3_code
def yX8_copyFrom : MethodName := ⟨RX8, "copyFrom", "(LRiverSteamers$Trip;)V"⟩
abbrev cX8_wayBits : ByteArray := prog_10_method_4_code
def yX8_wayBits : MethodName := ⟨RX8, "wayBits", "()I"⟩
def RX9 : String := "RiverSteamers$Wooding"
def TX9 : u_T := fun k => match k with
  | 0 => ("RiverSteamers$Wooding", "steps", "I", false)
  | 1 => ("RiverSteamers$Wooding", "tank", "I", false)
  | 2 => ("RiverSteamers$Wooding", "prices", "[I", true)
  | 3 => ("RiverSteamers$Wooding", "needs", "[I", true)
  | _ => ("RiverSteamers$Wooding", "least", "[I", true)
def tyX9 : Nat → FieldType := fun k => match k with
  | 0 => .int
  | 1 => .int
  | 2 => .array .int
  | 3 => .array .int
  | _ => .array .int
abbrev wsX90 : List Cond := u_ws RX9 TX9 5
theorem nmX9 : ∀ a, a < 5 → ∀ b, b < 5 → a ≠ b → (TX9 a).2.1 ≠ (TX9 b).2.1 := by decide +kernel
theorem tyX9_ok : ∀ k, k < 5 → parseFieldDescriptor (TX9 k).2.2.1 = some (tyX9 k) := by decide +kernel
abbrev cX9_init : ByteArray := prog_11_method_1_code
def yX9_init : MethodName := ⟨RX9, "<init>", "()V"⟩
abbrev cX9_workOut : ByteArray := prog_11_method_2_code
def yX9_workOut : MethodName := ⟨RX9, "workOut", "(LRiverSteamers$River;III)V"⟩
abbrev cX9_workOutStep : ByteArray := prog_11_method_3_code
def yX9_workOutStep : MethodName := ⟨RX9, "workOutStep", "(I)V"⟩
abbrev cX9_costOnward : ByteArray := prog_11_method_4_code
def yX9_costOnward : MethodName := ⟨RX9, "costOnward", "(II)I"⟩
abbrev cX9_leastCost : ByteArray := prog_11_method_5_code
def yX9_leastCost : MethodName := ⟨RX9, "leastCost", "()I"⟩
abbrev cX9_cordsAt : ByteArray := prog_11_method_6_code
def yX9_cordsAt : MethodName := ⟨RX9, "cordsAt", "(I)I"⟩
abbrev cX9_cordsFrom : ByteArray := prog_11_method_7_code
def yX9_cordsFrom : MethodName := ⟨RX9, "cordsFrom", "(II)I"⟩
def RX10 : String := "RiverSteamers$Words"
def TX10 : u_T := fun k => match k with
  | 0 => ("RiverSteamers$Words", "waters", "[I", true)
  | _ => ("RiverSteamers$Words", "quarters", "[I", true)
def tyX10 : Nat → FieldType := fun k => match k with
  | 0 => .array .int
  | _ => .array .int
abbrev wsX100 : List Cond := u_ws RX10 TX10 2
theorem nmX10 : ∀ a, a < 2 → ∀ b, b < 2 → a ≠ b → (TX10 a).2.1 ≠ (TX10 b).2.1 := by decide +kernel
theorem tyX10_ok : ∀ k, k < 2 → parseFieldDescriptor (TX10 k).2.2.1 = some (tyX10 k) := by decide +kernel
abbrev cX10_init : ByteArray := prog_12_method_1_code
def yX10_init : MethodName := ⟨RX10, "<init>", "()V"⟩
abbrev cX10_forgetAll : ByteArray := prog_12_method_2_code
def yX10_forgetAll : MethodName := ⟨RX10, "forgetAll", "()V"⟩
abbrev cX10_copyFrom : ByteArray := prog_12_method_3_code
def yX10_copyFrom : MethodName := ⟨RX10, "copyFrom", "(LRiverSteamers$Words;)V"⟩
abbrev cX10_isKnown : ByteArray := prog_12_method_4_code
def yX10_isKnown : MethodName := ⟨RX10, "isKnown", "(I)Z"⟩
abbrev cX10_learn : ByteArray := prog_12_method_5_code
def yX10_learn : MethodName := ⟨RX10, "learn", "(III)V"⟩
abbrev cX10_exchange : ByteArray := prog_12_method_6_code
def yX10_exchange : MethodName := ⟨RX10, "exchange", "(LRiverSteamers$Words;)V"⟩
abbrev cX10_toldOf : ByteArray := prog_12_method_7_code
def yX10_toldOf : MethodName := ⟨RX10, "toldOf", "(II)I"⟩
def RX11 : String := "RiverSteamers"
def TX11 : u_T := fun k => match k with
  | 0 => ("RiverSteamers", "river", "LRiverSteamers$River;", true)
  | 1 => ("RiverSteamers", "kept", "LRiverSteamers$River;", false)
  | 2 => ("RiverSteamers", "timesBack", "I", false)
  | 3 => ("RiverSteamers", "latestStatus", "I", false)
  | 4 => ("RiverSteamers", "sheets", "[LRiverSteamers$Sheet;", true)
  | 5 => ("RiverSteamers", "acts", "LRiverSteamers$Acts;", true)
  | 6 => ("RiverSteamers", "woodPlan", "LRiverSteamers$Wooding;", true)
  | _ => ("RiverSteamers", "choice", "[I", true)
def tyX11 : Nat → FieldType := fun k => match k with
  | 0 => .object "RiverSteamers$River"
  | 1 => .object "RiverSteamers$River"
  | 2 => .int
  | 3 => .int
  | 4 => .array (.object "RiverSteamers$Sheet")
  | 5 => .object "RiverSteamers$Acts"
  | 6 => .object "RiverSteamers$Wooding"
  | _ => .array .int
abbrev wsX110 : List Cond := u_ws RX11 TX11 8
theorem nmX11 : ∀ a, a < 8 → ∀ b, b < 8 → a ≠ b → (TX11 a).2.1 ≠ (TX11 b).2.1 := by decide +kernel
theorem tyX11_ok : ∀ k, k < 8 → parseFieldDescriptor (TX11 k).2.2.1 = some (tyX11 k) := by decide +kernel
abbrev cX11_init : ByteArray := prog_1_method_1_code
def yX11_init : MethodName := ⟨RX11, "<init>", "()V"⟩
abbrev cX11_stretch : ByteArray := prog_1_method_2_code
def yX11_stretch : MethodName := ⟨RX11, "stretch", "(III)I"⟩
abbrev cX11_gauge : ByteArray := prog_1_method_3_code
def yX11_gauge : MethodName := ⟨RX11, "gauge", "(II)I"⟩
abbrev cX11_shift : ByteArray := prog_1_method_4_code
def yX11_shift : MethodName := ⟨RX11, "shift", "(III)I"⟩
abbrev cX11_cold : ByteArray := prog_1_method_5_code
def yX11_cold : MethodName := ⟨RX11, "cold", "(IZ)I"⟩
abbrev cX11_light : ByteArray := prog_1_method_6_code
def yX11_light : MethodName := ⟨RX11, "light", "(IZ)I"⟩
abbrev cX11_boat : ByteArray := prog_1_method_7_code
def yX11_boat : MethodName := ⟨RX11, "boat", "(IIII)I"⟩
abbrev cX11_bale : ByteArray := prog_1_method_8_code
def yX11_bale : MethodName := ⟨RX11, "bale", "(IIII)I"⟩
abbrev cX11_lade : ByteArray := prog_1_method_9_code
def yX11_lade : MethodName := ⟨RX11, "lade", "(II)I"⟩
abbrev cX11_land : ByteArray := prog_1_method_10_code
def yX11_land : MethodName := ⟨RX11, "land", "(I)I"⟩
abbrev cX11_lose : ByteArray := prog_1_method_11_code
def yX11_lose : MethodName := ⟨RX11, "lose", "(I)I"⟩
abbrev cX11_leave : ByteArray := prog_1_method_12_code
def yX11_leave : MethodName := ⟨RX11, "leave", "(IZ)I"⟩
abbrev cX11_off : ByteArray := prog_1_method_13_code
def yX11_off : MethodName := ⟨RX11, "off", "(I)I"⟩
abbrev cX11_go : ByteArray := prog_1_method_14_code
def yX11_go : MethodName := ⟨RX11, "go", "(I)I"⟩
abbrev cX11_yard : ByteArray := prog_1_method_15_code
def yX11_yard : MethodName := ⟨RX11, "yard", "(II)I"⟩
abbrev cX11_wood : ByteArray := prog_1_method_16_code
def yX11_wood : MethodName := ⟨RX11, "wood", "(II)I"⟩
abbrev cX11_trip : ByteArray := prog_1_method_17_code
def yX11_trip : MethodName := ⟨RX11, "trip", "(III)I"⟩
abbrev cX11_rule : ByteArray := prog_1_method_18_code
def yX11_rule : MethodName := ⟨RX11, "rule", "(III)I"⟩
abbrev cX11_image : ByteArray := prog_1_method_19_code
def yX11_image : MethodName := ⟨RX11, "image", "()I"⟩
abbrev cX11_back : ByteArray := prog_1_method_20_code
def yX11_back : MethodName := ⟨RX11, "back", "()I"⟩
abbrev cX11_height : ByteArray := prog_1_method_21_code
def yX11_height : MethodName := ⟨RX11, "height", "(I)I"⟩
abbrev cX11_stretchTold : ByteArray := prog_1_method_22_code
def yX11_stretchTold : MethodName := ⟨RX11, "stretchTold", "(II)I"⟩
abbrev cX11_water : ByteArray := prog_1_method_23_code
def yX11_water : MethodName := ⟨RX11, "water", "(II)I"⟩
abbrev cX11_boatTold : ByteArray := prog_1_method_24_code
def yX11_boatTold : MethodName := ⟨RX11, "boatTold", "(II)I"⟩
abbrev cX11_baleTold : ByteArray := prog_1_method_25_code
def yX11_baleTold : MethodName := ⟨RX11, "baleTold", "(II)I"⟩
abbrev cX11_why : ByteArray := prog_1_method_26_code
def yX11_why : MethodName := ⟨RX11, "why", "(IZ)I"⟩
abbrev cX11_knows : ByteArray := prog_1_method_27_code
def yX11_knows : MethodName := ⟨RX11, "knows", "(III)I"⟩
abbrev cX11_box : ByteArray := prog_1_method_28_code
def yX11_box : MethodName := ⟨RX11, "box", "(III)I"⟩
abbrev cX11_lading : ByteArray := prog_1_method_29_code
def yX11_lading : MethodName := ⟨RX11, "lading", "(II)I"⟩
abbrev cX11_wooding : ByteArray := prog_1_method_30_code
def yX11_wooding : MethodName := ⟨RX11, "wooding", "(III)I"⟩
abbrev cX11_bought : ByteArray := prog_1_method_31_code
def yX11_bought : MethodName := ⟨RX11, "bought", "(IIII)I"⟩
abbrev cX11_lights : ByteArray := prog_1_method_32_code
def yX11_lights : MethodName := ⟨RX11, "lights", "()I"⟩
abbrev cX11_gives : ByteArray := prog_1_method_33_code
def yX11_gives : MethodName := ⟨RX11, "gives", "(IIIZZ)I"⟩
abbrev cX11_count : ByteArray := prog_1_method_34_code
def yX11_count : MethodName := ⟨RX11, "count", "(I)I"⟩
abbrev cX11_act : ByteArray := prog_1_method_35_code
def yX11_act : MethodName := ⟨RX11, "act", "(III)I"⟩
abbrev cX11_trace : ByteArray := prog_1_method_36_code
def yX11_trace : MethodName := ⟨RX11, "trace", "(I)I"⟩
abbrev cX11_sheet : ByteArray := prog_1_method_37_code
def yX11_sheet : MethodName := ⟨RX11, "sheet", "(III)I"⟩
abbrev cX11_cell : ByteArray := prog_1_method_38_code
def yX11_cell : MethodName := ⟨RX11, "cell", "(III)I"⟩
abbrev cX11_none : ByteArray := prog_1_method_39_code
def yX11_none : MethodName := ⟨RX11, "none", "(II)I"⟩
abbrev cX11_gauges : ByteArray := prog_1_method_40_code
def yX11_gauges : MethodName := ⟨RX11, "gauges", "(IIII)I"⟩
abbrev cX11_forge : ByteArray := prog_1_method_41_code
def yX11_forge : MethodName := ⟨RX11, "forge", "(III)I"⟩
abbrev cX11_status : ByteArray := prog_1_method_42_code
def yX11_status : MethodName := ⟨RX11, "status", "()I"⟩
abbrev cX11_done : ByteArray := prog_1_method_43_code
def yX11_done : MethodName := ⟨RX11, "done", "(I)I"⟩
abbrev cX11_refused : ByteArray := prog_1_method_44_code
def yX11_refused : MethodName := ⟨RX11, "refused", "(I)I"⟩
abbrev cX11_isWithin : ByteArray := prog_1_method_45_code
def yX11_isWithin : MethodName := ⟨RX11, "isWithin", "(III)Z"⟩
abbrev cX11_isDay : ByteArray := prog_1_method_46_code
def yX11_isDay : MethodName := ⟨RX11, "isDay", "(I)Z"⟩
abbrev cX11_isSheet : ByteArray := prog_1_method_47_code
def yX11_isSheet : MethodName := ⟨RX11, "isSheet", "(I)Z"⟩
abbrev cX11_isUnder : ByteArray := prog_1_method_48_code
def yX11_isUnder : MethodName := ⟨RX11, "isUnder", "(II)Z"⟩
abbrev cX11_listBalesAt : ByteArray := prog_1_method_49_code
def yX11_listBalesAt : MethodName := ⟨RX11, "listBalesAt", "(I)I"⟩
abbrev cX11_bestSet : ByteArray := prog_1_method_50_code
def yX11_bestSet : MethodName := ⟨RX11, "bestSet", "(LRiverSteamers$Boat;II)I"⟩
abbrev cX11_yieldingBy : ByteArray := prog_1_method_51_code
def yX11_yieldingBy : MethodName := ⟨RX11, "yieldingBy", "(IIIZZ)I"⟩
abbrev cX11_tellFromFloat : ByteArray := prog_1_method_52_code
def yX11_tellFromFloat : MethodName := ⟨RX11, "tellFromFloat", "(II)V"⟩
abbrev cX11_forgeKind : ByteArray := prog_1_method_53_code
def yX11_forgeKind : MethodName := ⟨RX11, "forgeKind", "(II)I"⟩
abbrev cX11_forgeShort : ByteArray := prog_1_method_54_code
def yX11_forgeShort : MethodName := ⟨RX11, "forgeShort", "(LRiverSteamers$Sheet;I)I"⟩
abbrev cX11_forgeCopy : ByteArray := prog_1_method_55_code
def yX11_forgeCopy : MethodName := ⟨RX11, "forgeCopy", "(LRiverSteamers$Sheet;I)I"⟩
abbrev cX11_forgeRow : ByteArray := prog_1_method_56_code
def yX11_forgeRow : MethodName := ⟨RX11, "forgeRow", "(I)I"⟩
def RX12 : String := "RiverSteamersModel"
def TX12 : u_T := fun k => match k with
  | 0 => ("RiverSteamersModel", "status", "I", false)
  | 1 => ("RiverSteamersModel", "quarter", "I", false)
  | 2 => ("RiverSteamersModel", "stretches", "I", false)
  | 3 => ("RiverSteamersModel", "kind", "[I", true)
  | 4 => ("RiverSteamersModel", "length", "[I", true)
  | 5 => ("RiverSteamersModel", "depth", "[I", true)
  | 6 => ("RiverSteamersModel", "lit", "[Z", true)
  | 7 => ("RiverSteamersModel", "shift", "[I", true)
  | 8 => ("RiverSteamersModel", "isShifted", "[Z", true)
  | 9 => ("RiverSteamersModel", "height", "[I", true)
  | 10 => ("RiverSteamersModel", "isTold", "[Z", true)
  | 11 => ("RiverSteamersModel", "isCold", "[Z", true)
  | 12 => ("RiverSteamersModel", "boats", "I", false)
  | 13 => ("RiverSteamersModel", "hull", "[I", true)
  | 14 => ("RiverSteamersModel", "room", "[I", true)
  | 15 => ("RiverSteamersModel", "tank", "[I", true)
  | 16 => ("RiverSteamersModel", "how", "[I", true)
  | 17 => ("RiverSteamersModel", "at", "[I", true)
  | 18 => ("RiverSteamersModel", "left", "[I", true)
  | 19 => ("RiverSteamersModel", "till", "[I", true)
  | 20 => ("RiverSteamersModel", "wood", "[I", true)
  | 21 => ("RiverSteamersModel", "wordWater", "[I", true)
  | 22 => ("RiverSteamersModel", "wordAt", "[I", true)
  | 23 => ("RiverSteamersModel", "price", "[I", true)
  | 24 => ("RiverSteamersModel", "bales", "I", false)
  | 25 => ("RiverSteamersModel", "baleTo", "[I", true)
  | 26 => ("RiverSteamersModel", "weight", "[I", true)
  | 27 => ("RiverSteamersModel", "rate", "[I", true)
  | 28 => ("RiverSteamersModel", "baleHow", "[I", true)
  | 29 => ("RiverSteamersModel", "baleAt", "[I", true)
  | 30 => ("RiverSteamersModel", "paid", "I", false)
  | 31 => ("RiverSteamersModel", "trips", "I", false)
  | 32 => ("RiverSteamersModel", "tripFrom", "[I", true)
  | 33 => ("RiverSteamersModel", "tripTo", "[I", true)
  | 34 => ("RiverSteamersModel", "waits", "[I", true)
  | 35 => ("RiverSteamersModel", "rules", "I", false)
  | 36 => ("RiverSteamersModel", "ruleKind", "[I", true)
  | 37 => ("RiverSteamersModel", "ruleHow", "[I", true)
  | 38 => ("RiverSteamersModel", "ruleFirst", "[I", true)
  | 39 => ("RiverSteamersModel", "ruleLast", "[I", true)
  | 40 => ("RiverSteamersModel", "cost", "[I", true)
  | 41 => ("RiverSteamersModel", "buys", "[I", true)
  | 42 => ("RiverSteamersModel", "took", "[I", true)
  | 43 => ("RiverSteamersModel", "legs", "I", false)
  | 44 => ("RiverSteamersModel", "hasImage", "Z", false)
  | 45 => ("RiverSteamersModel", "backs", "I", false)
  | 46 => ("RiverSteamersModel", "keptCounts", "[I", true)
  | 47 => ("RiverSteamersModel", "keptLit", "[Z", true)
  | 48 => ("RiverSteamersModel", "keptShift", "[I", true)
  | 49 => ("RiverSteamersModel", "keptShifted", "[Z", true)
  | 50 => ("RiverSteamersModel", "keptHeight", "[I", true)
  | 51 => ("RiverSteamersModel", "keptTold", "[Z", true)
  | 52 => ("RiverSteamersModel", "keptCold", "[Z", true)
  | 53 => ("RiverSteamersModel", "keptBoats", "[I", true)
  | 54 => ("RiverSteamersModel", "keptWater", "[I", true)
  | 55 => ("RiverSteamersModel", "keptAt", "[I", true)
  | 56 => ("RiverSteamersModel", "keptPrice", "[I", true)
  | 57 => ("RiverSteamersModel", "keptBales", "[I", true)
  | 58 => ("RiverSteamersModel", "trace", "[I", true)
  | 59 => ("RiverSteamersModel", "traces", "I", false)
  | 60 => ("RiverSteamersModel", "sheetSort", "[I", true)
  | 61 => ("RiverSteamersModel", "sheetSize", "[I", true)
  | 62 => ("RiverSteamersModel", "cells", "[I", true)
  | _ => ("RiverSteamersModel", "isNone", "[Z", true)
def tyX12 : Nat → FieldType := fun k => match k with
  | 0 => .int
  | 1 => .int
  | 2 => .int
  | 3 => .array .int
  | 4 => .array .int
  | 5 => .array .int
  | 6 => .array .boolean
  | 7 => .array .int
  | 8 => .array .boolean
  | 9 => .array .int
  | 10 => .array .boolean
  | 11 => .array .boolean
  | 12 => .int
  | 13 => .array .int
  | 14 => .array .int
  | 15 => .array .int
  | 16 => .array .int
  | 17 => .array .int
  | 18 => .array .int
  | 19 => .array .int
  | 20 => .array .int
  | 21 => .array .int
  | 22 => .array .int
  | 23 => .array .int
  | 24 => .int
  | 25 => .array .int
  | 26 => .array .int
  | 27 => .array .int
  | 28 => .array .int
  | 29 => .array .int
  | 30 => .int
  | 31 => .int
  | 32 => .array .int
  | 33 => .array .int
  | 34 => .array .int
  | 35 => .int
  | 36 => .array .int
  | 37 => .array .int
  | 38 => .array .int
  | 39 => .array .int
  | 40 => .array .int
  | 41 => .array .int
  | 42 => .array .int
  | 43 => .int
  | 44 => .boolean
  | 45 => .int
  | 46 => .array .int
  | 47 => .array .boolean
  | 48 => .array .int
  | 49 => .array .boolean
  | 50 => .array .int
  | 51 => .array .boolean
  | 52 => .array .boolean
  | 53 => .array .int
  | 54 => .array .int
  | 55 => .array .int
  | 56 => .array .int
  | 57 => .array .int
  | 58 => .array .int
  | 59 => .int
  | 60 => .array .int
  | 61 => .array .int
  | 62 => .array .int
  | _ => .array .boolean
abbrev wsX120 : List Cond := u_ws RX12 TX12 64
theorem nmX12 : ∀ a, a < 64 → ∀ b, b < 64 → a ≠ b → (TX12 a).2.1 ≠ (TX12 b).2.1 := by decide +kernel
theorem tyX12_ok : ∀ k, k < 64 → parseFieldDescriptor (TX12 k).2.2.1 = some (tyX12 k) := by decide +kernel
abbrev cX12_init : ByteArray := prog_14_method_2_code
def yX12_init : MethodName := ⟨RX12, "<init>", "()V"⟩
abbrev cX12_in : ByteArray := prog_14_method_3_code
def yX12_in : MethodName := ⟨RX12, "in", "(III)Z"⟩
abbrev cX12_refused : ByteArray := prog_14_method_4_code
def yX12_refused : MethodName := ⟨RX12, "refused", "(I)I"⟩
abbrev cX12_done : ByteArray := prog_14_method_5_code
def yX12_done : MethodName := ⟨RX12, "done", "(I)I"⟩
abbrev cX12_isStretch : ByteArray := prog_14_method_6_code
def yX12_isStretch : MethodName := ⟨RX12, "isStretch", "(I)Z"⟩
abbrev cX12_isLanding : ByteArray := prog_14_method_7_code
def yX12_isLanding : MethodName := ⟨RX12, "isLanding", "(I)Z"⟩
abbrev cX12_isBoat : ByteArray := prog_14_method_8_code
def yX12_isBoat : MethodName := ⟨RX12, "isBoat", "(I)Z"⟩
abbrev cX12_isBale : ByteArray := prog_14_method_9_code
def yX12_isBale : MethodName := ⟨RX12, "isBale", "(I)Z"⟩
abbrev cX12_isDay : ByteArray := prog_14_method_10_code
def yX12_isDay : MethodName := ⟨RX12, "isDay", "(I)Z"⟩
abbrev cX12_today : ByteArray := prog_14_method_11_code
def yX12_today : MethodName := ⟨RX12, "today", "()I"⟩
abbrev cX12_isNight : ByteArray := prog_14_method_12_code
def yX12_isNight : MethodName := ⟨RX12, "isNight", "()Z"⟩
abbrev cX12_stretch : ByteArray := prog_14_method_13_code
def yX12_stretch : MethodName := ⟨RX12, "stretch", "(III)I"⟩
abbrev cX12_told : ByteArray := prog_14_method_14_code
def yX12_told : MethodName := ⟨RX12, "told", "()I"⟩
abbrev cX12_gauge : ByteArray := prog_14_method_15_code
def yX12_gauge : MethodName := ⟨RX12, "gauge", "(II)I"⟩
abbrev cX12_isBar : ByteArray := prog_14_method_16_code
def yX12_isBar : MethodName := ⟨RX12, "isBar", "(I)Z"⟩
abbrev cX12_shift : ByteArray := prog_14_method_17_code
def yX12_shift : MethodName := ⟨RX12, "shift", "(III)I"⟩
abbrev cX12_cold : ByteArray := prog_14_method_18_code
def yX12_cold : MethodName := ⟨RX12, "cold", "(IZ)I"⟩
abbrev cX12_light : ByteArray := prog_14_method_19_code
def yX12_light : MethodName := ⟨RX12, "light", "(IZ)I"⟩
abbrev cX12_heightOf : ByteArray := prog_14_method_20_code
def yX12_heightOf : MethodName := ⟨RX12, "heightOf", "(I)I"⟩
abbrev cX12_height : ByteArray := prog_14_method_21_code
def yX12_height : MethodName := ⟨RX12, "height", "(I)I"⟩
abbrev cX12_shiftOf : ByteArray := prog_14_method_22_code
def yX12_shiftOf : MethodName := ⟨RX12, "shiftOf", "(II)I"⟩
abbrev cX12_waterOf : ByteArray := prog_14_method_23_code
def yX12_waterOf : MethodName := ⟨RX12, "waterOf", "(II)I"⟩
abbrev cX12_water : ByteArray := prog_14_method_24_code
def yX12_water : MethodName := ⟨RX12, "water", "(II)I"⟩
abbrev cX12_longOf : ByteArray := prog_14_method_25_code
def yX12_longOf : MethodName := ⟨RX12, "longOf", "(IZ)I"⟩
abbrev cX12_stretchTold : ByteArray := prog_14_method_26_code
def yX12_stretchTold : MethodName := ⟨RX12, "stretchTold", "(II)I"⟩
abbrev cX12_boat : ByteArray := prog_14_method_27_code
def yX12_boat : MethodName := ⟨RX12, "boat", "(IIII)I"⟩
abbrev cX12_aboard : ByteArray := prog_14_method_28_code
def yX12_aboard : MethodName := ⟨RX12, "aboard", "(I)I"⟩
abbrev cX12_draught : ByteArray := prog_14_method_29_code
def yX12_draught : MethodName := ⟨RX12, "draught", "(I)I"⟩
abbrev cX12_bale : ByteArray := prog_14_method_30_code
def yX12_bale : MethodName := ⟨RX12, "bale", "(IIII)I"⟩
abbrev cX12_lade : ByteArray := prog_14_method_31_code
def yX12_lade : MethodName := ⟨RX12, "lade", "(II)I"⟩
abbrev cX12_land : ByteArray := prog_14_method_32_code
def yX12_land : MethodName := ⟨RX12, "land", "(I)I"⟩
abbrev cX12_lose : ByteArray := prog_14_method_33_code
def yX12_lose : MethodName := ⟨RX12, "lose", "(I)I"⟩
abbrev cX12_hears : ByteArray := prog_14_method_34_code
def yX12_hears : MethodName := ⟨RX12, "hears", "(II)V"⟩
abbrev cX12_comes : ByteArray := prog_14_method_35_code
def yX12_comes : MethodName := ⟨RX12, "comes", "(II)V"⟩
abbrev cX12_ahead : ByteArray := prog_14_method_36_code
def yX12_ahead : MethodName := ⟨RX12, "ahead", "(IZ)I"⟩
abbrev cX12_whyNot : ByteArray := prog_14_method_37_code
def yX12_whyNot : MethodName := ⟨RX12, "whyNot", "(IZ)I"⟩
abbrev cX12_why : ByteArray := prog_14_method_38_code
def yX12_why : MethodName := ⟨RX12, "why", "(IZ)I"⟩
abbrev cX12_leave : ByteArray := prog_14_method_39_code
def yX12_leave : MethodName := ⟨RX12, "leave", "(IZ)I"⟩
abbrev cX12_off : ByteArray := prog_14_method_40_code
def yX12_off : MethodName := ⟨RX12, "off", "(I)I"⟩
abbrev cX12_go : ByteArray := prog_14_method_41_code
def yX12_go : MethodName := ⟨RX12, "go", "(I)I"⟩
abbrev cX12_knows : ByteArray := prog_14_method_42_code
def yX12_knows : MethodName := ⟨RX12, "knows", "(III)I"⟩
abbrev cX12_box : ByteArray := prog_14_method_43_code
def yX12_box : MethodName := ⟨RX12, "box", "(III)I"⟩
abbrev cX12_word : ByteArray := prog_14_method_44_code
def yX12_word : MethodName := ⟨RX12, "word", "(II)I"⟩
abbrev cX12_boatTold : ByteArray := prog_14_method_45_code
def yX12_boatTold : MethodName := ⟨RX12, "boatTold", "(II)I"⟩
abbrev cX12_baleTold : ByteArray := prog_14_method_46_code
def yX12_baleTold : MethodName := ⟨RX12, "baleTold", "(II)I"⟩
abbrev cX12_sumOf : ByteArray := prog_14_method_47_code
def yX12_sumOf : MethodName := ⟨RX12, "sumOf", "(IZ)I"⟩
abbrev cX12_lading : ByteArray := prog_14_method_48_code
def yX12_lading : MethodName := ⟨RX12, "lading", "(II)I"⟩
abbrev cX12_yard : ByteArray := prog_14_method_49_code
def yX12_yard : MethodName := ⟨RX12, "yard", "(II)I"⟩
abbrev cX12_wood : ByteArray := prog_14_method_50_code
def yX12_wood : MethodName := ⟨RX12, "wood", "(II)I"⟩
abbrev cX12_landingOf : ByteArray := prog_14_method_51_code
def yX12_landingOf : MethodName := ⟨RX12, "landingOf", "(III)I"⟩
abbrev cX12_stretchOf : ByteArray := prog_14_method_52_code
def yX12_stretchOf : MethodName := ⟨RX12, "stretchOf", "(III)I"⟩
abbrev cX12_buysAt : ByteArray := prog_14_method_53_code
def yX12_buysAt : MethodName := ⟨RX12, "buysAt", "(IIIII)V"⟩
abbrev cX12_findWood : ByteArray := prog_14_method_54_code
def yX12_findWood : MethodName := ⟨RX12, "findWood", "(III)I"⟩
abbrev cX12_wooding : ByteArray := prog_14_method_55_code
def yX12_wooding : MethodName := ⟨RX12, "wooding", "(III)I"⟩
abbrev cX12_bought : ByteArray := prog_14_method_56_code
def yX12_bought : MethodName := ⟨RX12, "bought", "(IIII)I"⟩
abbrev cX12_trip : ByteArray := prog_14_method_57_code
def yX12_trip : MethodName := ⟨RX12, "trip", "(III)I"⟩
abbrev cX12_helps : ByteArray := prog_14_method_58_code
def yX12_helps : MethodName := ⟨RX12, "helps", "(I)Z"⟩
abbrev cX12_many : ByteArray := prog_14_method_59_code
def yX12_many : MethodName := ⟨RX12, "many", "(I)I"⟩
abbrev cX12_lights : ByteArray := prog_14_method_60_code
def yX12_lights : MethodName := ⟨RX12, "lights", "()I"⟩
abbrev cX12_rule : ByteArray := prog_14_method_61_code
def yX12_rule : MethodName := ⟨RX12, "rule", "(III)I"⟩
abbrev cX12_isUnder : ByteArray := prog_14_method_62_code
def yX12_isUnder : MethodName := ⟨RX12, "isUnder", "(II)Z"⟩
abbrev cX12_tells : ByteArray := prog_14_method_63_code
def yX12_tells : MethodName := ⟨RX12, "tells", "(IIIZZ)I"⟩
abbrev cX12_gives : ByteArray := prog_14_method_64_code
def yX12_gives : MethodName := ⟨RX12, "gives", "(IIIZZ)I"⟩
abbrev cX12_image : ByteArray := prog_14_method_65_code
def yX12_image : MethodName := ⟨RX12, "image", "()I"⟩
abbrev cX12_lay : ByteArray := prog_14_method_66_code
def yX12_lay : MethodName := ⟨RX12, "lay", "()V"⟩
abbrev cX12_back : ByteArray := prog_14_method_67_code
def yX12_back : MethodName := ⟨RX12, "back", "()I"⟩
abbrev cX12_count : ByteArray := prog_14_method_68_code
def yX12_count : MethodName := ⟨RX12, "count", "(I)I"⟩
abbrev cX12_ran : ByteArray := prog_14_method_69_code
def yX12_ran : MethodName := ⟨RX12, "ran", "(I)V"⟩
abbrev cX12_bear10 : ByteArray := prog_14_method_70_code
def yX12_bear10 : MethodName := ⟨RX12, "bear10", "(II)I"⟩
abbrev cX12_bear20 : ByteArray := prog_14_method_71_code
def yX12_bear20 : MethodName := ⟨RX12, "bear20", "(II)I"⟩
abbrev cX12_bearOf : ByteArray := prog_14_method_72_code
def yX12_bearOf : MethodName := ⟨RX12, "bearOf", "(II)I"⟩
abbrev cX12_bar12 : ByteArray := prog_14_method_73_code
def yX12_bar12 : MethodName := ⟨RX12, "bar12", "(II)I"⟩
abbrev cX12_barOf : ByteArray := prog_14_method_74_code
def yX12_barOf : MethodName := ⟨RX12, "barOf", "(II)I"⟩
abbrev cX12_move11 : ByteArray := prog_14_method_75_code
def yX12_move11 : MethodName := ⟨RX12, "move11", "(II)I"⟩
abbrev cX12_moveOf : ByteArray := prog_14_method_76_code
def yX12_moveOf : MethodName := ⟨RX12, "moveOf", "(II)I"⟩
abbrev cX12_tell13 : ByteArray := prog_14_method_77_code
def yX12_tell13 : MethodName := ⟨RX12, "tell13", "(II)I"⟩
abbrev cX12_tellOf : ByteArray := prog_14_method_78_code
def yX12_tellOf : MethodName := ⟨RX12, "tellOf", "(II)I"⟩
abbrev cX12_act : ByteArray := prog_14_method_79_code
def yX12_act : MethodName := ⟨RX12, "act", "(III)I"⟩
abbrev cX12_trace : ByteArray := prog_14_method_80_code
def yX12_trace : MethodName := ⟨RX12, "trace", "(I)I"⟩
abbrev cX12_sheet : ByteArray := prog_14_method_81_code
def yX12_sheet : MethodName := ⟨RX12, "sheet", "(III)I"⟩
abbrev cX12_cell : ByteArray := prog_14_method_82_code
def yX12_cell : MethodName := ⟨RX12, "cell", "(III)I"⟩
abbrev cX12_none : ByteArray := prog_14_method_83_code
def yX12_none : MethodName := ⟨RX12, "none", "(II)I"⟩
abbrev cX12_gauges : ByteArray := prog_14_method_84_code
def yX12_gauges : MethodName := ⟨RX12, "gauges", "(IIII)I"⟩
abbrev cX12_modulo : ByteArray := prog_14_method_85_code
def yX12_modulo : MethodName := ⟨RX12, "modulo", "(II)I"⟩
abbrev cX12_copied : ByteArray := prog_14_method_86_code
def yX12_copied : MethodName := ⟨RX12, "copied", "(II)I"⟩
abbrev cX12_shorts : ByteArray := prog_14_method_87_code
def yX12_shorts : MethodName := ⟨RX12, "shorts", "(II)I"⟩
abbrev cX12_forge : ByteArray := prog_14_method_88_code
def yX12_forge : MethodName := ⟨RX12, "forge", "(III)I"⟩
abbrev cX12_status : ByteArray := prog_14_method_89_code
def yX12_status : MethodName := ⟨RX12, "status", "()I"⟩
def RJ6 : String := "java/lang/Integer"
def RJ9 : String := "java/lang/Math"
def RJ10 : String := "java/lang/System"
def RJ7 : String := "java/util/Arrays"
def RL : String := "RiverSteamersLaw"
abbrev cL_law : ByteArray := code
def yL_law : MethodName := ⟨RL, "law", "([I)Z"⟩
def cl_ : List vw_C := [(RX0, TX0, 2), (RX1, TX1, 5), (RX2, TX2, 10), (RX3, TX3, 2), (RX4, TX4, 16), (RX5, TX5, 4), (RX6, TX6, 3), (RX7, TX7, 6), (RX8, TX8, 3), (RX9, TX9, 5), (RX10, TX10, 2), (RX11, TX11, 8), (RX12, TX12, 64)]
def isRt : List (List Nat) := [[1], [], [9], [1], [8, 9, 10, 11, 12, 13, 14, 15], [], [2], [5], [], [2, 3, 4], [0, 1], [0, 1, 4, 5, 6, 7], [3, 4, 5, 6, 7, 8, 9, 10, 11, 13, 14, 15, 16, 17, 18, 19, 20, 21, 22, 23, 25, 26, 27, 28, 29, 32, 33, 34, 36, 37, 38, 39, 40, 41, 42, 46, 47, 48, 49, 50, 51, 52, 53, 54, 55, 56, 57, 58, 60, 61, 62, 63]]
set_option maxRecDepth 20000 in
theorem inX0 : ∀ w ∈ u_ws RX0 TX0 2, w ∈ lw_tbl := sub_p [421, 423] (by decide +kernel)
set_option maxRecDepth 20000 in
theorem inX1 : ∀ w ∈ u_ws RX1 TX1 5, w ∈ lw_tbl := sub_p [297, 299, 301, 303, 305] (by decide +kernel)
set_option maxRecDepth 20000 in
theorem inX2 : ∀ w ∈ u_ws RX2 TX2 10, w ∈ lw_tbl := sub_p [259, 261, 263, 265, 267, 269, 271, 273, 275, 277] (by decide +kernel)
set_option maxRecDepth 20000 in
theorem inX3 : ∀ w ∈ u_ws RX3 TX3 2, w ∈ lw_tbl := sub_p [222, 224] (by decide +kernel)
set_option maxRecDepth 20000 in
theorem inX4 : ∀ w ∈ u_ws RX4 TX4 16, w ∈ lw_tbl := sub_p [376, 378, 380, 382, 384, 386, 388, 390, 392, 394, 396, 398, 400, 402, 404, 406] (by decide +kernel)
set_option maxRecDepth 20000 in
theorem inX5 : ∀ w ∈ u_ws RX5 TX5 4, w ∈ lw_tbl := sub_p [335, 337, 339, 341] (by decide +kernel)
set_option maxRecDepth 20000 in
theorem inX6 : ∀ w ∈ u_ws RX6 TX6 3, w ∈ lw_tbl := sub_p [458, 460, 462] (by decide +kernel)
set_option maxRecDepth 20000 in
theorem inX7 : ∀ w ∈ u_ws RX7 TX7 6, w ∈ lw_tbl := sub_p [181, 183, 185, 187, 189, 191] (by decide +kernel)
set_option maxRecDepth 20000 in
theorem inX8 : ∀ w ∈ u_ws RX8 TX8 3, w ∈ lw_tbl := sub_p [317, 319, 321] (by decide +kernel)
set_option maxRecDepth 20000 in
theorem inX9 : ∀ w ∈ u_ws RX9 TX9 5, w ∈ lw_tbl := sub_p [437, 439, 441, 443, 445] (by decide +kernel)
set_option maxRecDepth 20000 in
theorem inX10 : ∀ w ∈ u_ws RX10 TX10 2, w ∈ lw_tbl := sub_p [211, 213] (by decide +kernel)
set_option maxRecDepth 20000 in
theorem inX11 : ∀ w ∈ u_ws RX11 TX11 8, w ∈ lw_tbl := sub_p [473, 475, 477, 479, 481, 483, 485, 487] (by decide +kernel)
set_option maxRecDepth 20000 in
theorem inX12 : ∀ w ∈ u_ws RX12 TX12 64, w ∈ lw_tbl := sub_p [1081, 1083, 1085, 1087, 1089, 1091, 1093, 1095, 1097, 1099, 1101, 1103, 1105, 1107, 1109, 1111, 1113, 1115, 1117, 1119, 1121, 1123, 1125, 1127, 1129, 1131, 1133, 1135, 1137, 1139, 1141, 1143, 1145, 1147, 1149, 1151, 1153, 1155, 1157, 1159, 1161, 1163, 1165, 1167, 1169, 1171, 1173, 1175, 1177, 1179, 1181, 1183, 1185, 1187, 1189, 1191, 1193, 1195, 1197, 1199, 1201, 1203, 1205, 1207] (by decide +kernel)
abbrev MI : Type := MethodName × ByteArray × Nat × Option FieldType
abbrev mX0_init : MI := (yX0_init, cX0_init, 1, none)
abbrev mX0_begin : MI := (yX0_begin, cX0_begin, 4, (some .int))
abbrev mX0_kindWithBody : MI := (yX0_kindWithBody, cX0_kindWithBody, 4, (some .int))
abbrev mX0_note : MI := (yX0_note, cX0_note, 2, none)
abbrev mX0_run : MI := (yX0_run, cX0_run, 9, (some .int))
abbrev mX1_init : MI := (yX1_init, cX1_init, 1, none)
abbrev mX1_begin : MI := (yX1_begin, cX1_begin, 5, none)
abbrev mX1_copyFrom : MI := (yX1_copyFrom, cX1_copyFrom, 2, none)
abbrev mX2_init : MI := (yX2_init, cX2_init, 1, none)
abbrev mX2_begin : MI := (yX2_begin, cX2_begin, 5, none)
abbrev mX2_copyFrom : MI := (yX2_copyFrom, cX2_copyFrom, 2, none)
abbrev mX2_isUnderWay : MI := (yX2_isUnderWay, cX2_isUnderWay, 1, (some .boolean))
abbrev mX2_stretchToward : MI := (yX2_stretchToward, cX2_stretchToward, 2, (some .int))
abbrev mX2_draught : MI := (yX2_draught, cX2_draught, 1, (some .int))
abbrev mX2_draughtWith : MI := (yX2_draughtWith, cX2_draughtWith, 2, (some .int))
abbrev mX2_canTake : MI := (yX2_canTake, cX2_canTake, 3, (some .boolean))
abbrev mX3_init : MI := (yX3_init, cX3_init, 1, none)
abbrev mX3_copyFrom : MI := (yX3_copyFrom, cX3_copyFrom, 2, none)
abbrev mX4_init : MI := (yX4_init, cX4_init, 2, none)
abbrev mX4_copyFrom : MI := (yX4_copyFrom, cX4_copyFrom, 2, none)
abbrev mX4_copyThings : MI := (yX4_copyThings, cX4_copyThings, 3, none)
abbrev mX4_isStretch : MI := (yX4_isStretch, cX4_isStretch, 2, (some .boolean))
abbrev mX4_isLanding : MI := (yX4_isLanding, cX4_isLanding, 2, (some .boolean))
abbrev mX4_isBoat : MI := (yX4_isBoat, cX4_isBoat, 2, (some .boolean))
abbrev mX4_isBale : MI := (yX4_isBale, cX4_isBale, 2, (some .boolean))
abbrev mX4_isWay : MI := (yX4_isWay, cX4_isWay, 3, (some .boolean))
abbrev mX4_today : MI := (yX4_today, cX4_today, 1, (some .int))
abbrev mX4_isNight : MI := (yX4_isNight, cX4_isNight, 1, (some .boolean))
abbrev mX4_tellHeight : MI := (yX4_tellHeight, cX4_tellHeight, 3, none)
abbrev mX4_heightOn : MI := (yX4_heightOn, cX4_heightOn, 5, (some .int))
abbrev mX4_waterOn : MI := (yX4_waterOn, cX4_waterOn, 4, (some .int))
abbrev mX4_longNow : MI := (yX4_longNow, cX4_longNow, 3, (some .int))
abbrev mX4_longByDaylight : MI := (yX4_longByDaylight, cX4_longByDaylight, 3, (some .int))
abbrev mX4_whyNot : MI := (yX4_whyNot, cX4_whyNot, 4, (some .int))
abbrev mX4_setOut : MI := (yX4_setOut, cX4_setOut, 6, (some .int))
abbrev mX4_goOneQuarter : MI := (yX4_goOneQuarter, cX4_goOneQuarter, 3, none)
abbrev mX4_comeTo : MI := (yX4_comeTo, cX4_comeTo, 3, none)
abbrev mX4_carrierOf : MI := (yX4_carrierOf, cX4_carrierOf, 2, (some (.object "RiverSteamers$Boat")))
abbrev mX4_boatsAground : MI := (yX4_boatsAground, cX4_boatsAground, 3, (some .int))
abbrev mX4_darkCrossings : MI := (yX4_darkCrossings, cX4_darkCrossings, 4, (some .int))
abbrev mX4_tripsBear : MI := (yX4_tripsBear, cX4_tripsBear, 3, (some .boolean))
abbrev mX5_init : MI := (yX5_init, cX5_init, 1, none)
abbrev mX5_begin : MI := (yX5_begin, cX5_begin, 5, none)
abbrev mX5_copyFrom : MI := (yX5_copyFrom, cX5_copyFrom, 2, none)
abbrev mX5_isInForce : MI := (yX5_isInForce, cX5_isInForce, 2, (some .boolean))
abbrev mX6_init : MI := (yX6_init, cX6_init, 1, none)
abbrev mX6_begin : MI := (yX6_begin, cX6_begin, 3, none)
abbrev mX6_isMissing : MI := (yX6_isMissing, cX6_isMissing, 1, (some .boolean))
abbrev mX6_hasPlace : MI := (yX6_hasPlace, cX6_hasPlace, 2, (some .boolean))
abbrev mX6_faultAs : MI := (yX6_faultAs, cX6_faultAs, 2, (some .int))
abbrev mX6_put : MI := (yX6_put, cX6_put, 3, none)
abbrev mX7_init : MI := (yX7_init, cX7_init, 1, none)
abbrev mX7_begin : MI := (yX7_begin, cX7_begin, 5, none)
abbrev mX7_copyFrom : MI := (yX7_copyFrom, cX7_copyFrom, 2, none)
abbrev mX7_shiftOn : MI := (yX7_shiftOn, cX7_shiftOn, 3, (some .int))
abbrev mX8_init : MI := (yX8_init, cX8_init, 1, none)
abbrev mX8_begin : MI := (yX8_begin, cX8_begin, 4, none)
abbrev mX8_copyFrom : MI := (yX8_copyFrom, cX8_copyFrom, 2, none)
abbrev mX8_wayBits : MI := (yX8_wayBits, cX8_wayBits, 1, (some .int))
abbrev mX9_init : MI := (yX9_init, cX9_init, 1, none)
abbrev mX9_workOut : MI := (yX9_workOut, cX9_workOut, 8, none)
abbrev mX9_workOutStep : MI := (yX9_workOutStep, cX9_workOutStep, 7, none)
abbrev mX9_costOnward : MI := (yX9_costOnward, cX9_costOnward, 4, (some .int))
abbrev mX9_leastCost : MI := (yX9_leastCost, cX9_leastCost, 1, (some .int))
abbrev mX9_cordsAt : MI := (yX9_cordsAt, cX9_cordsAt, 4, (some .int))
abbrev mX9_cordsFrom : MI := (yX9_cordsFrom, cX9_cordsFrom, 6, (some .int))
abbrev mX10_init : MI := (yX10_init, cX10_init, 1, none)
abbrev mX10_forgetAll : MI := (yX10_forgetAll, cX10_forgetAll, 1, none)
abbrev mX10_copyFrom : MI := (yX10_copyFrom, cX10_copyFrom, 2, none)
abbrev mX10_isKnown : MI := (yX10_isKnown, cX10_isKnown, 2, (some .boolean))
abbrev mX10_learn : MI := (yX10_learn, cX10_learn, 4, none)
abbrev mX10_exchange : MI := (yX10_exchange, cX10_exchange, 3, none)
abbrev mX10_toldOf : MI := (yX10_toldOf, cX10_toldOf, 3, (some .int))
abbrev mX11_init : MI := (yX11_init, cX11_init, 2, none)
abbrev mX11_stretch : MI := (yX11_stretch, cX11_stretch, 5, (some .int))
abbrev mX11_gauge : MI := (yX11_gauge, cX11_gauge, 3, (some .int))
abbrev mX11_shift : MI := (yX11_shift, cX11_shift, 5, (some .int))
abbrev mX11_cold : MI := (yX11_cold, cX11_cold, 4, (some .int))
abbrev mX11_light : MI := (yX11_light, cX11_light, 5, (some .int))
abbrev mX11_boat : MI := (yX11_boat, cX11_boat, 6, (some .int))
abbrev mX11_bale : MI := (yX11_bale, cX11_bale, 6, (some .int))
abbrev mX11_lade : MI := (yX11_lade, cX11_lade, 6, (some .int))
abbrev mX11_land : MI := (yX11_land, cX11_land, 4, (some .int))
abbrev mX11_lose : MI := (yX11_lose, cX11_lose, 4, (some .int))
abbrev mX11_leave : MI := (yX11_leave, cX11_leave, 5, (some .int))
abbrev mX11_off : MI := (yX11_off, cX11_off, 3, (some .int))
abbrev mX11_go : MI := (yX11_go, cX11_go, 3, (some .int))
abbrev mX11_yard : MI := (yX11_yard, cX11_yard, 5, (some .int))
abbrev mX11_wood : MI := (yX11_wood, cX11_wood, 5, (some .int))
abbrev mX11_trip : MI := (yX11_trip, cX11_trip, 5, (some .int))
abbrev mX11_rule : MI := (yX11_rule, cX11_rule, 6, (some .int))
abbrev mX11_image : MI := (yX11_image, cX11_image, 1, (some .int))
abbrev mX11_back : MI := (yX11_back, cX11_back, 1, (some .int))
abbrev mX11_height : MI := (yX11_height, cX11_height, 2, (some .int))
abbrev mX11_stretchTold : MI := (yX11_stretchTold, cX11_stretchTold, 4, (some .int))
abbrev mX11_water : MI := (yX11_water, cX11_water, 3, (some .int))
abbrev mX11_boatTold : MI := (yX11_boatTold, cX11_boatTold, 4, (some .int))
abbrev mX11_baleTold : MI := (yX11_baleTold, cX11_baleTold, 4, (some .int))
abbrev mX11_why : MI := (yX11_why, cX11_why, 3, (some .int))
abbrev mX11_knows : MI := (yX11_knows, cX11_knows, 4, (some .int))
abbrev mX11_box : MI := (yX11_box, cX11_box, 4, (some .int))
abbrev mX11_lading : MI := (yX11_lading, cX11_lading, 4, (some .int))
abbrev mX11_wooding : MI := (yX11_wooding, cX11_wooding, 4, (some .int))
abbrev mX11_bought : MI := (yX11_bought, cX11_bought, 5, (some .int))
abbrev mX11_lights : MI := (yX11_lights, cX11_lights, 5, (some .int))
abbrev mX11_gives : MI := (yX11_gives, cX11_gives, 10, (some .int))
abbrev mX11_count : MI := (yX11_count, cX11_count, 2, (some .int))
abbrev mX11_act : MI := (yX11_act, cX11_act, 4, (some .int))
abbrev mX11_trace : MI := (yX11_trace, cX11_trace, 2, (some .int))
abbrev mX11_sheet : MI := (yX11_sheet, cX11_sheet, 6, (some .int))
abbrev mX11_cell : MI := (yX11_cell, cX11_cell, 5, (some .int))
abbrev mX11_none : MI := (yX11_none, cX11_none, 5, (some .int))
abbrev mX11_gauges : MI := (yX11_gauges, cX11_gauges, 9, (some .int))
abbrev mX11_forge : MI := (yX11_forge, cX11_forge, 4, (some .int))
abbrev mX11_status : MI := (yX11_status, cX11_status, 1, (some .int))
abbrev mX11_done : MI := (yX11_done, cX11_done, 2, (some .int))
abbrev mX11_refused : MI := (yX11_refused, cX11_refused, 2, (some .int))
abbrev mX11_isWithin : MI := (yX11_isWithin, cX11_isWithin, 3, (some .boolean))
abbrev mX11_isDay : MI := (yX11_isDay, cX11_isDay, 1, (some .boolean))
abbrev mX11_isSheet : MI := (yX11_isSheet, cX11_isSheet, 1, (some .boolean))
abbrev mX11_isUnder : MI := (yX11_isUnder, cX11_isUnder, 4, (some .boolean))
abbrev mX11_listBalesAt : MI := (yX11_listBalesAt, cX11_listBalesAt, 5, (some .int))
abbrev mX11_bestSet : MI := (yX11_bestSet, cX11_bestSet, 15, (some .int))
abbrev mX11_yieldingBy : MI := (yX11_yieldingBy, cX11_yieldingBy, 8, (some .int))
abbrev mX11_tellFromFloat : MI := (yX11_tellFromFloat, cX11_tellFromFloat, 4, none)
abbrev mX11_forgeKind : MI := (yX11_forgeKind, cX11_forgeKind, 4, (some .int))
abbrev mX11_forgeShort : MI := (yX11_forgeShort, cX11_forgeShort, 4, (some .int))
abbrev mX11_forgeCopy : MI := (yX11_forgeCopy, cX11_forgeCopy, 6, (some .int))
abbrev mX11_forgeRow : MI := (yX11_forgeRow, cX11_forgeRow, 3, (some .int))
abbrev mX12_init : MI := (yX12_init, cX12_init, 2, none)
abbrev mX12_in : MI := (yX12_in, cX12_in, 3, (some .boolean))
abbrev mX12_refused : MI := (yX12_refused, cX12_refused, 2, (some .int))
abbrev mX12_done : MI := (yX12_done, cX12_done, 2, (some .int))
abbrev mX12_isStretch : MI := (yX12_isStretch, cX12_isStretch, 2, (some .boolean))
abbrev mX12_isLanding : MI := (yX12_isLanding, cX12_isLanding, 2, (some .boolean))
abbrev mX12_isBoat : MI := (yX12_isBoat, cX12_isBoat, 2, (some .boolean))
abbrev mX12_isBale : MI := (yX12_isBale, cX12_isBale, 2, (some .boolean))
abbrev mX12_isDay : MI := (yX12_isDay, cX12_isDay, 1, (some .boolean))
abbrev mX12_today : MI := (yX12_today, cX12_today, 1, (some .int))
abbrev mX12_isNight : MI := (yX12_isNight, cX12_isNight, 1, (some .boolean))
abbrev mX12_stretch : MI := (yX12_stretch, cX12_stretch, 6, (some .int))
abbrev mX12_told : MI := (yX12_told, cX12_told, 3, (some .int))
abbrev mX12_gauge : MI := (yX12_gauge, cX12_gauge, 3, (some .int))
abbrev mX12_isBar : MI := (yX12_isBar, cX12_isBar, 2, (some .boolean))
abbrev mX12_shift : MI := (yX12_shift, cX12_shift, 4, (some .int))
abbrev mX12_cold : MI := (yX12_cold, cX12_cold, 4, (some .int))
abbrev mX12_light : MI := (yX12_light, cX12_light, 4, (some .int))
abbrev mX12_heightOf : MI := (yX12_heightOf, cX12_heightOf, 4, (some .int))
abbrev mX12_height : MI := (yX12_height, cX12_height, 2, (some .int))
abbrev mX12_shiftOf : MI := (yX12_shiftOf, cX12_shiftOf, 4, (some .int))
abbrev mX12_waterOf : MI := (yX12_waterOf, cX12_waterOf, 3, (some .int))
abbrev mX12_water : MI := (yX12_water, cX12_water, 3, (some .int))
abbrev mX12_longOf : MI := (yX12_longOf, cX12_longOf, 4, (some .int))
abbrev mX12_stretchTold : MI := (yX12_stretchTold, cX12_stretchTold, 3, (some .int))
abbrev mX12_boat : MI := (yX12_boat, cX12_boat, 6, (some .int))
abbrev mX12_aboard : MI := (yX12_aboard, cX12_aboard, 4, (some .int))
abbrev mX12_draught : MI := (yX12_draught, cX12_draught, 2, (some .int))
abbrev mX12_bale : MI := (yX12_bale, cX12_bale, 5, (some .int))
abbrev mX12_lade : MI := (yX12_lade, cX12_lade, 3, (some .int))
abbrev mX12_land : MI := (yX12_land, cX12_land, 3, (some .int))
abbrev mX12_lose : MI := (yX12_lose, cX12_lose, 2, (some .int))
abbrev mX12_hears : MI := (yX12_hears, cX12_hears, 3, none)
abbrev mX12_comes : MI := (yX12_comes, cX12_comes, 6, none)
abbrev mX12_ahead : MI := (yX12_ahead, cX12_ahead, 4, (some .int))
abbrev mX12_whyNot : MI := (yX12_whyNot, cX12_whyNot, 5, (some .int))
abbrev mX12_why : MI := (yX12_why, cX12_why, 3, (some .int))
abbrev mX12_leave : MI := (yX12_leave, cX12_leave, 7, (some .int))
abbrev mX12_off : MI := (yX12_off, cX12_off, 2, (some .int))
abbrev mX12_go : MI := (yX12_go, cX12_go, 4, (some .int))
abbrev mX12_knows : MI := (yX12_knows, cX12_knows, 4, (some .int))
abbrev mX12_box : MI := (yX12_box, cX12_box, 4, (some .int))
abbrev mX12_word : MI := (yX12_word, cX12_word, 3, (some .int))
abbrev mX12_boatTold : MI := (yX12_boatTold, cX12_boatTold, 3, (some .int))
abbrev mX12_baleTold : MI := (yX12_baleTold, cX12_baleTold, 3, (some .int))
abbrev mX12_sumOf : MI := (yX12_sumOf, cX12_sumOf, 5, (some .int))
abbrev mX12_lading : MI := (yX12_lading, cX12_lading, 9, (some .int))
abbrev mX12_yard : MI := (yX12_yard, cX12_yard, 4, (some .int))
abbrev mX12_wood : MI := (yX12_wood, cX12_wood, 3, (some .int))
abbrev mX12_landingOf : MI := (yX12_landingOf, cX12_landingOf, 3, (some .int))
abbrev mX12_stretchOf : MI := (yX12_stretchOf, cX12_stretchOf, 3, (some .int))
abbrev mX12_buysAt : MI := (yX12_buysAt, cX12_buysAt, 12, none)
abbrev mX12_findWood : MI := (yX12_findWood, cX12_findWood, 6, (some .int))
abbrev mX12_wooding : MI := (yX12_wooding, cX12_wooding, 5, (some .int))
abbrev mX12_bought : MI := (yX12_bought, cX12_bought, 5, (some .int))
abbrev mX12_trip : MI := (yX12_trip, cX12_trip, 4, (some .int))
abbrev mX12_helps : MI := (yX12_helps, cX12_helps, 7, (some .boolean))
abbrev mX12_many : MI := (yX12_many, cX12_many, 3, (some .int))
abbrev mX12_lights : MI := (yX12_lights, cX12_lights, 4, (some .int))
abbrev mX12_rule : MI := (yX12_rule, cX12_rule, 4, (some .int))
abbrev mX12_isUnder : MI := (yX12_isUnder, cX12_isUnder, 2, (some .boolean))
abbrev mX12_tells : MI := (yX12_tells, cX12_tells, 7, (some .int))
abbrev mX12_gives : MI := (yX12_gives, cX12_gives, 8, (some .int))
abbrev mX12_image : MI := (yX12_image, cX12_image, 2, (some .int))
abbrev mX12_lay : MI := (yX12_lay, cX12_lay, 2, none)
abbrev mX12_back : MI := (yX12_back, cX12_back, 1, (some .int))
abbrev mX12_count : MI := (yX12_count, cX12_count, 4, (some .int))
abbrev mX12_ran : MI := (yX12_ran, cX12_ran, 2, none)
abbrev mX12_bear10 : MI := (yX12_bear10, cX12_bear10, 3, (some .int))
abbrev mX12_bear20 : MI := (yX12_bear20, cX12_bear20, 3, (some .int))
abbrev mX12_bearOf : MI := (yX12_bearOf, cX12_bearOf, 3, (some .int))
abbrev mX12_bar12 : MI := (yX12_bar12, cX12_bar12, 3, (some .int))
abbrev mX12_barOf : MI := (yX12_barOf, cX12_barOf, 3, (some .int))
abbrev mX12_move11 : MI := (yX12_move11, cX12_move11, 3, (some .int))
abbrev mX12_moveOf : MI := (yX12_moveOf, cX12_moveOf, 4, (some .int))
abbrev mX12_tell13 : MI := (yX12_tell13, cX12_tell13, 4, (some .int))
abbrev mX12_tellOf : MI := (yX12_tellOf, cX12_tellOf, 4, (some .int))
abbrev mX12_act : MI := (yX12_act, cX12_act, 4, (some .int))
abbrev mX12_trace : MI := (yX12_trace, cX12_trace, 2, (some .int))
abbrev mX12_sheet : MI := (yX12_sheet, cX12_sheet, 5, (some .int))
abbrev mX12_cell : MI := (yX12_cell, cX12_cell, 4, (some .int))
abbrev mX12_none : MI := (yX12_none, cX12_none, 3, (some .int))
abbrev mX12_gauges : MI := (yX12_gauges, cX12_gauges, 8, (some .int))
abbrev mX12_modulo : MI := (yX12_modulo, cX12_modulo, 2, (some .int))
abbrev mX12_copied : MI := (yX12_copied, cX12_copied, 5, (some .int))
abbrev mX12_shorts : MI := (yX12_shorts, cX12_shorts, 3, (some .int))
abbrev mX12_forge : MI := (yX12_forge, cX12_forge, 5, (some .int))
abbrev mX12_status : MI := (yX12_status, cX12_status, 1, (some .int))
abbrev mL_law : MI := (yL_law, cL_law, 4, ret)
end
section
/-! ===== the words that stay, and the nest words ===== -/
def isNestW : Cond → Bool
  | .fieldLinkNest .. => true
  | .methodLinkNest .. => true
  | _ => false
def TBg : List Cond := lw_tbl.filter goodWord
def TBn : List Cond := lw_tbl.filter isNestW
theorem tb_g (i : Nat) {w : Cond} (h : lw_tbl[i]? = some w) (hg : goodWord w = true) : w ∈ TBg := List.mem_filter.mpr ⟨List.mem_of_getElem? h, hg⟩
theorem tb_n (i : Nat) {w : Cond} (h : lw_tbl[i]? = some w) (hg : isNestW w = true) : w ∈ TBn := List.mem_filter.mpr ⟨List.mem_of_getElem? h, hg⟩
theorem tb_good {w : Cond} (h : w ∈ TBg) : GoodIn TBg (w :: TBg) := by
  intro x hx
  rcases List.mem_cons.mp hx with rfl | hx
  · exact ⟨h, good_of_word (List.mem_filter.mp h).2⟩
  · exact ⟨hx, good_of_word (List.mem_filter.mp hx).2⟩
theorem lays_good {C : String} {T : u_T} {N : Nat} (h : ∀ w ∈ u_ws C T N, w ∈ lw_tbl) : ∀ w ∈ u_ws C T N, w ∈ TBg := by
  intro w hw
  refine List.mem_filter.mpr ⟨h w hw, ?_⟩
  obtain ⟨k, -, rfl⟩ := List.mem_map.mp hw
  unfold u_lay
  split <;> rfl
theorem cl_in : ∀ (c : Nat) (q : vw_C), cl_[c]? = some q → ∀ w ∈ u_ws q.1 q.2.1 q.2.2, w ∈ TBg := by
  intro c q h
  match c, h with
  | 0, h => cases h; exact lays_good inX0
  | 1, h => cases h; exact lays_good inX1
  | 2, h => cases h; exact lays_good inX2
  | 3, h => cases h; exact lays_good inX3
  | 4, h => cases h; exact lays_good inX4
  | 5, h => cases h; exact lays_good inX5
  | 6, h => cases h; exact lays_good inX6
  | 7, h => cases h; exact lays_good inX7
  | 8, h => cases h; exact lays_good inX8
  | 9, h => cases h; exact lays_good inX9
  | 10, h => cases h; exact lays_good inX10
  | 11, h => cases h; exact lays_good inX11
  | 12, h => cases h; exact lays_good inX12
  | c + 13, h => simp [cl_] at h
theorem cl_nm : ∀ (c : Nat) (q : vw_C), cl_[c]? = some q → ∀ a, a < q.2.2 → ∀ b, b < q.2.2 → a ≠ b → (q.2.1 a).2.1 ≠ (q.2.1 b).2.1 := by
  intro c q h
  match c, h with
  | 0, h => cases h; exact nmX0
  | 1, h => cases h; exact nmX1
  | 2, h => cases h; exact nmX2
  | 3, h => cases h; exact nmX3
  | 4, h => cases h; exact nmX4
  | 5, h => cases h; exact nmX5
  | 6, h => cases h; exact nmX6
  | 7, h => cases h; exact nmX7
  | 8, h => cases h; exact nmX8
  | 9, h => cases h; exact nmX9
  | 10, h => cases h; exact nmX10
  | 11, h => cases h; exact nmX11
  | 12, h => cases h; exact nmX12
  | c + 13, h => simp [cl_] at h
theorem cl_ty : ∀ (c : Nat) (q : vw_C), cl_[c]? = some q → ∃ ty : Nat → FieldType, ∀ k, k < q.2.2 → parseFieldDescriptor (q.2.1 k).2.2.1 = some (ty k) := by
  intro c q h
  match c, h with
  | 0, h => cases h; exact ⟨_, tyX0_ok⟩
  | 1, h => cases h; exact ⟨_, tyX1_ok⟩
  | 2, h => cases h; exact ⟨_, tyX2_ok⟩
  | 3, h => cases h; exact ⟨_, tyX3_ok⟩
  | 4, h => cases h; exact ⟨_, tyX4_ok⟩
  | 5, h => cases h; exact ⟨_, tyX5_ok⟩
  | 6, h => cases h; exact ⟨_, tyX6_ok⟩
  | 7, h => cases h; exact ⟨_, tyX7_ok⟩
  | 8, h => cases h; exact ⟨_, tyX8_ok⟩
  | 9, h => cases h; exact ⟨_, tyX9_ok⟩
  | 10, h => cases h; exact ⟨_, tyX10_ok⟩
  | 11, h => cases h; exact ⟨_, tyX11_ok⟩
  | 12, h => cases h; exact ⟨_, tyX12_ok⟩
  | c + 13, h => simp [cl_] at h
/-! ===== the launch's fixed data, the abstract heap, what it says of the machine's ===== -/
/-- launch; where new cells begin, the two tables' cells, the script's cell; classes, their slots, the arrays' classes; the script's length and ints -/
abbrev Gl : Type := Launch × (Nat × Nat × Nat × Nat) × (Nat → ClassId) × (Nat → Nat → Nat) × (Nat → ClassId) × Nat × (Nat → Int32)
/-- ints by cell and place; references by cell and place; kind of a cell; length of an array; the next cell -/
abbrev Hp : Type := (Nat → Nat → Int32) × (Nat → Nat → Option Nat) × (Nat → Nat) × (Nat → Nat) × Nat
def gN (G : Gl) : Nat := G.2.1.1
def AA (G : Gl) : Nat → Prop := fun q => gN G ≤ q
def ad (G : Gl) : Nat → Nat
  | 0 => G.2.1.2.1
  | 1 => G.2.1.2.2.1
  | 2 => G.2.1.2.2.2
  | k + 3 => gN G + k
def cv (G : Gl) : Value → Value
  | .ref k => .ref (ad G k)
  | v => v
def rfv (o : Option Nat) : Value := match o with
  | none => .null
  | some k => .ref k
def rv (G : Gl) (o : Option Nat) : Value := match o with
  | none => .null
  | some k => .ref (ad G k)
theorem cv_rfv (G : Gl) (o : Option Nat) : cv G (rfv o) = rv G o := by cases o <;> rfl
theorem cv_cat (G : Gl) (v : Value) : (cv G v).category = v.category := by cases v <;> rfl
theorem ad_ge (G : Gl) {k : Nat} (h : 3 ≤ k) : ad G k = gN G + (k - 3) := by
  match k, h with
  | k + 3, _ => rfl
def isR (c j : Nat) : Bool := (isRt.getD c []).contains j
def cE (G : Gl) (t n : Nat) (f : Nat → Int32) (r : Nat → Option Nat) (a : Nat) (H : Heap) : Prop :=
  (∃ (c : Nat) (q : vw_C), t = c + 1 ∧ cl_[c]? = some q ∧ t_OB a (G.2.2.1 c) q.2.2 (G.2.2.2.1 c) H (fun j => if isR c j = true then rv G (r j) else .int (f j))) ∨
  (t = 20 ∧ H[a]? = some (arrV (G.2.2.2.2.1 0) n (fun j => .int (f j)))) ∨
  (t = 21 ∧ H[a]? = some (arrV (G.2.2.2.2.1 1) n (fun j => .int (f j)))) ∨
  (∃ c : Nat, t = c + 40 ∧ H[a]? = some (arrV (G.2.2.2.2.1 (c + 2)) n (fun j => rv G (r j))))
def HR (G : Gl) (h : Hp) (H : Heap) : Prop :=
  H.size + 3 = gN G + h.2.2.2.2 ∧ 3 ≤ h.2.2.2.2 ∧ ∀ k, h.2.2.1 k ≠ 0 → 3 ≤ k ∧ k < h.2.2.2.2 ∧ cE G (h.2.2.1 k) (h.2.2.2.1 k) (h.1 k) (h.2.1 k) (ad G k) H
theorem cl_len {c : Nat} {q : vw_C} (h : cl_[c]? = some q) : c < 13 := (List.getElem?_eq_some_iff.mp h).1
theorem cE.o {G : Gl} {c n : Nat} {f : Nat → Int32} {r : Nat → Option Nat} {a : Nat} {H : Heap} (hc : c < 13) (h : cE G (c + 1) n f r a H) : ∃ q : vw_C, cl_[c]? = some q ∧ t_OB a (G.2.2.1 c) q.2.2 (G.2.2.2.1 c) H (fun j => if isR c j = true then rv G (r j) else .int (f j)) := by
  rcases h with ⟨c', q, h1, h2, h3⟩ | ⟨h1, -⟩ | ⟨h1, -⟩ | ⟨c', h1, -⟩
  · obtain rfl : c = c' := by omega
    exact ⟨q, h2, h3⟩
  · omega
  · omega
  · omega
theorem cE.i {G : Gl} {n : Nat} {f : Nat → Int32} {r : Nat → Option Nat} {a : Nat} {H : Heap} (h : cE G 20 n f r a H) : H[a]? = some (arrV (G.2.2.2.2.1 0) n (fun j => .int (f j))) := by
  rcases h with ⟨c', q, h1, h2, h3⟩ | ⟨h1, h⟩ | ⟨h1, -⟩ | ⟨c', h1, -⟩
  · have := cl_len h2; omega
  · exact h
  · omega
  · omega
theorem cE.z {G : Gl} {n : Nat} {f : Nat → Int32} {r : Nat → Option Nat} {a : Nat} {H : Heap} (h : cE G 21 n f r a H) : H[a]? = some (arrV (G.2.2.2.2.1 1) n (fun j => .int (f j))) := by
  rcases h with ⟨c', q, h1, h2, h3⟩ | ⟨h1, -⟩ | ⟨h1, h⟩ | ⟨c', h1, -⟩
  · have := cl_len h2; omega
  · omega
  · exact h
  · omega
theorem cE.r {G : Gl} {c n : Nat} {f : Nat → Int32} {r : Nat → Option Nat} {a : Nat} {H : Heap} (h : cE G (c + 40) n f r a H) : H[a]? = some (arrV (G.2.2.2.2.1 (c + 2)) n (fun j => rv G (r j))) := by
  rcases h with ⟨c', q, h1, h2, h3⟩ | ⟨h1, -⟩ | ⟨h1, -⟩ | ⟨c', h1, h⟩
  · have := cl_len h2; omega
  · omega
  · omega
  · obtain rfl : c = c' := by omega
    exact h
theorem cE.kept {G : Gl} {t n : Nat} {f : Nat → Int32} {r : Nat → Option Nat} {a : Nat} {H H1 : Heap} (h : cE G t n f r a H) (e : H1[a]? = H[a]?) : cE G t n f r a H1 := by
  rcases h with ⟨c', q, h1, h2, h3⟩ | ⟨h1, h⟩ | ⟨h1, h⟩ | ⟨c', h1, h⟩
  · exact Or.inl ⟨c', q, h1, h2, h3.kept e⟩
  · exact Or.inr (Or.inl ⟨h1, e.trans h⟩)
  · exact Or.inr (Or.inr (Or.inl ⟨h1, e.trans h⟩))
  · exact Or.inr (Or.inr (Or.inr ⟨c', h1, e.trans h⟩))
/-- one cell is written, the others stay -/
theorem HR.put {G : Gl} {h h' : Hp} {H H1 : Heap} {k : Nat} (hH : HR G h H) (hk : 3 ≤ k) (hz : H1.size = H.size) (oq : ∀ q, q ≠ ad G k → H1[q]? = H[q]?)
    (h1 : h'.2.2 = h.2.2) (h2 : ∀ j, j ≠ k → h'.1 j = h.1 j ∧ h'.2.1 j = h.2.1 j) (hc : cE G (h.2.2.1 k) (h.2.2.2.1 k) (h'.1 k) (h'.2.1 k) (ad G k) H1) : HR G h' H1 := by
  obtain ⟨a1, a2, a3⟩ := hH
  refine ⟨by rw [hz, h1]; exact a1, by rw [h1]; exact a2, fun j hj => ?_⟩
  rw [h1] at hj ⊢
  obtain ⟨b1, b2, b3⟩ := a3 j hj
  refine ⟨b1, b2, ?_⟩
  by_cases hjk : j = k
  · subst hjk
    exact hc
  · rw [(h2 j hjk).1, (h2 j hjk).2]
    refine b3.kept (oq _ fun e => hjk ?_)
    rw [ad_ge G b1, ad_ge G hk] at e
    omega
/-- a cell is made -/
theorem HR.new {G : Gl} {h h' : Hp} {H H1 : Heap} (hH : HR G h H) (hz : H1.size = H.size + 1) (oq : ∀ q, q < H.size → H1[q]? = H[q]?) (hn : h'.2.2.2.2 = h.2.2.2.2 + 1)
    (h2 : ∀ j, j ≠ h.2.2.2.2 → h'.1 j = h.1 j ∧ h'.2.1 j = h.2.1 j ∧ h'.2.2.1 j = h.2.2.1 j ∧ h'.2.2.2.1 j = h.2.2.2.1 j)
    (hc : cE G (h'.2.2.1 h.2.2.2.2) (h'.2.2.2.1 h.2.2.2.2) (h'.1 h.2.2.2.2) (h'.2.1 h.2.2.2.2) H.size H1) : HR G h' H1 := by
  obtain ⟨a1, a2, a3⟩ := hH
  refine ⟨by omega, by omega, fun j hj => ?_⟩
  by_cases hjk : j = h.2.2.2.2
  · subst hjk
    refine ⟨a2, by omega, ?_⟩
    rw [show ad G h.2.2.2.2 = H.size by rw [ad_ge G a2]; omega]
    exact hc
  · obtain ⟨c1, c2, c3, c4⟩ := h2 j hjk
    rw [c3] at hj
    rw [c1, c2, c3, c4]
    obtain ⟨b1, b2, b3⟩ := a3 j hj
    refine ⟨b1, by omega, b3.kept (oq _ ?_)⟩
    rw [ad_ge G b1]
    omega
theorem HR.nx {G : Gl} {h : Hp} {H : Heap} (hH : HR G h H) : H.size = ad G h.2.2.2.2 := by
  rw [ad_ge G hH.2.1]
  have := hH.1
  have := hH.2.1
  omega
/-! ===== what is known of the classes, of the statics, of the script ===== -/
def arrCs : List Nat := [1, 2, 3, 5, 6, 7, 8]
def KK (G : Gl) (U : State) : Prop :=
  (∀ (c : Nat) (q : vw_C), cl_[c]? = some q → u_Kn U q.1 q.2.1 q.2.2 (G.2.2.1 c) (G.2.2.2.1 c)) ∧ (ArrOfT U (G.2.2.2.2.1 0) .int ∧ va_RA U (G.2.2.2.2.1 0) .int) ∧ (ArrOfT U (G.2.2.2.2.1 1) .boolean ∧ va_RA U (G.2.2.2.2.1 1) .boolean) ∧
  (∀ c ∈ arrCs, ∀ q : vw_C, cl_[c]? = some q → ArrOfT U (G.2.2.2.2.1 (c + 2)) (.object q.1) ∧ va_RA U (G.2.2.2.2.1 (c + 2)) (.object q.1) ∧ va_AO q.1 U) ∧ ∀ w ∈ TBn, va_Nw w U
theorem nw_warm {w : Cond} (hw : w ∈ TBn) {s U : State} (hW : s.WarmedH U.vm) (h : va_Nw w s) : va_Nw w U := by
  have hn := (List.mem_filter.mp hw).2
  cases w <;> first | (cases hn; done) | exact va_Nw.warmF hW h | exact va_Nw.warmM hW h
theorem nw_vm {w : Cond} (hw : w ∈ TBn) {s U : State} (hv : s.vm = U.vm) (h : va_Nw w s) : va_Nw w U := by
  have hn := (List.mem_filter.mp hw).2
  cases w <;> first | (cases hn; done) | exact va_Nw.same rfl hv h
theorem KK.warm {G : Gl} {s U : State} (hW : s.WarmedH U.vm) (h : KK G s) : KK G U := by
  obtain ⟨h1, h2, h3, h4, h5⟩ := h
  have A := hW.alike
  exact ⟨fun c q hq => u_Kn_moved A (h1 c q hq), ⟨arrOfT_moved A h2.1, h2.2.moved A⟩, ⟨arrOfT_moved A h3.1, h3.2.moved A⟩, fun c hc q hq => ⟨arrOfT_moved A (h4 c hc q hq).1, (h4 c hc q hq).2.1.moved A, (h4 c hc q hq).2.2.moved A⟩, fun w hw => nw_warm hw hW (h5 w hw)⟩
theorem KK.vm {G : Gl} {s U : State} (hv : s.vm = U.vm) (h : KK G s) : KK G U := by
  obtain ⟨h1, h2, h3, h4, h5⟩ := h
  have A : s.vm.Alike U.vm := by rw [hv]; exact Vm.Alike.refl _
  exact ⟨fun c q hq => u_Kn_moved A (h1 c q hq), ⟨arrOfT_moved A h2.1, h2.2.moved A⟩, ⟨arrOfT_moved A h3.1, h3.2.moved A⟩, fun c hc q hq => ⟨arrOfT_moved A (h4 c hc q hq).1, (h4 c hc q hq).2.1.moved A, (h4 c hc q hq).2.2.moved A⟩, fun w hw => nw_vm hw hv (h5 w hw)⟩
def kaT : List Int32 := [-1, 0, 0, 1, 0, 0]
def boT : List Int32 := [10, 11, 12, 13, 20, 0, 0, 21, 0, 30, 0, 0, 41, 0, 40, 0, 0, 50, 51, 0, 0, 0, 0, 60]
def SF (G : Gl) (U : State) (H : Heap) : Prop :=
  va_Z "RiverSteamers" "KIND_ABOVE" "[I" (.ref (ad G 0)) (AA G) U H ∧ va_Z "RiverSteamers$Acts" "BODIES" "[I" (.ref (ad G 1)) (AA G) U H ∧
  va_T .int (ad G 0) 6 (fun j => .int (kaT.getD j 0)) (AA G) U H ∧ va_T .int (ad G 1) 24 (fun j => .int (boT.getD j 0)) (AA G) U H ∧
  va_X (ad G 2) G.2.2.2.2.2.1 G.2.2.2.2.2.2 U H ∧ ad G 2 < gN G
theorem SF.moved {G : Gl} {s U : State} {H : Heap} (hA : s.vm.Alike U.vm) (h : SF G s H) : SF G U H := by
  obtain ⟨h1, h2, h3, h4, h5, h6⟩ := h
  exact ⟨h1.moved hA, h2.moved hA, h3.moved hA, h4.moved hA, h5.moved hA, h6⟩
theorem SF.kept {G : Gl} {U : State} {H H1 : Heap} (h : SF G U H) (hN : gN G ≤ H.size) (hq : ∀ a : Nat, a < H.size → ¬ AA G a → H1[a]? = H[a]?) : SF G U H1 := by
  obtain ⟨h1, h2, h3, h4, h5, h6⟩ := h
  exact ⟨h1.kept hq, h2.kept hq, h3.kept hq, h4.kept hq, h5.kept (hq _ (Nat.lt_of_lt_of_le h6 hN) (Nat.not_le.mpr h6)), h6⟩
end
section
/-! ===== the judgement V: from this place of this method, with these locals, this stack, this heap, the method comes to its end ===== -/
def Cx (G : Gl) (Y : MI) (p : Program) (s : State) (m : MethodId) (args : Array Value) (meth : Method) (c : Code) : Prop :=
  p.tables.exec = Jvm.exec ∧ c.code = Y.2.1 ∧ c.maxLocals = Y.2.2.1 ∧ meth.sig.returnType = Y.2.2.2 ∧ meth.locks = false ∧ meth.name = Y.1.name ∧ s.vm.findClass Y.1.cls = some m.cls ∧
  (∀ w ∈ TBg, w.before args s = true) ∧ KK G s ∧ SF G s s.heap ∧ gN G ≤ s.heap.size
def pr (G : Gl) : List (Option Value) → Nat → List (Nat × Value)
  | [], _ => []
  | none :: l, i => pr G l (i + 1)
  | some v :: l, i => if v.category = 1 then (i, cv G v) :: pr G l (i + 1) else pr G l (i + 1)
theorem pr_mem {G : Gl} : ∀ {L : List (Option Value)} {i : Nat} {q : Nat × Value}, q ∈ pr G L i ↔ ∃ k v, L[k]? = some (some v) ∧ q.1 = i + k ∧ v.category = 1 ∧ q.2 = cv G v
  | [], i, q => by simp [pr]
  | none :: l, i, q => by
    rw [pr, pr_mem]
    constructor
    · rintro ⟨k, v, h1, h2, h3⟩
      exact ⟨k + 1, v, by simpa using h1, by omega, h3⟩
    · rintro ⟨k, v, h1, h2, h3⟩
      match k, h1, h2 with
      | 0, h1, h2 => simp at h1
      | k + 1, h1, h2 => exact ⟨k, v, by simpa using h1, by omega, h3⟩
  | some w :: l, i, q => by
    rw [pr]
    by_cases hw : w.category = 1
    · rw [if_pos hw, List.mem_cons, pr_mem]
      constructor
      · rintro (rfl | ⟨k, v, h1, h2, h3⟩)
        · exact ⟨0, w, rfl, rfl, hw, rfl⟩
        · exact ⟨k + 1, v, by simpa using h1, by omega, h3⟩
      · rintro ⟨k, v, h1, h2, h3, h4⟩
        match k, h1, h2 with
        | 0, h1, h2 =>
          left
          simp at h1
          subst h1
          exact Prod.ext h2 h4
        | k + 1, h1, h2 => exact Or.inr ⟨k, v, by simpa using h1, by omega, h3, h4⟩
    · rw [if_neg hw, pr_mem]
      constructor
      · rintro ⟨k, v, h1, h2, h3⟩
        exact ⟨k + 1, v, by simpa using h1, by omega, h3⟩
      · rintro ⟨k, v, h1, h2, h3, h4⟩
        match k, h1, h2 with
        | 0, h1, h2 =>
          simp at h1
          subst h1
          exact absurd h3 hw
        | k + 1, h1, h2 => exact ⟨k, v, by simpa using h1, by omega, h3, h4⟩
theorem pr_at {G : Gl} {ls : Array Slot} {n : Nat} {L : List (Option Value)} {i : Nat} {v : Value} (h : lv_has ls n (pr G L 0)) (hl : L[i]? = some (some v)) (hc : v.category = 1) : ls[i]? = some (.val (cv G v)) :=
  h.2.2 (i, cv G v) (pr_mem.mpr ⟨i, v, hl, by simp, hc, rfl⟩)
theorem pr_set {G : Gl} {ls : Array Slot} {n : Nat} {L : List (Option Value)} {i : Nat} {v : Value} {w : Value} (hw : w = cv G v)
    (h : lv_has ls n ((i, w) :: (pr G L 0).filter (fun q => !(q.1 == i) && !(q.1 + 1 == i && q.2.category == 2)))) : lv_has ls n (pr G (L.set i (some v)) 0) := by
  refine ⟨h.1, h.2.1, fun q hq => h.2.2 q ?_⟩
  obtain ⟨k, u, h1, h2, h3, h4⟩ := pr_mem.mp hq
  rw [Nat.zero_add] at h2
  by_cases hk : k = i
  · subst hk
    have hlt : k < L.length := by
      have := (List.getElem?_eq_some_iff.mp h1).1
      simpa using this
    rw [List.getElem?_set_self hlt] at h1
    cases h1
    exact List.mem_cons.mpr (Or.inl (Prod.ext h2 (h4.trans hw.symm)))
  · rw [List.getElem?_set_ne (Ne.symm hk)] at h1
    refine List.mem_cons.mpr (Or.inr (List.mem_filter.mpr ⟨pr_mem.mpr ⟨k, u, h1, by simpa using h2, h3, h4⟩, ?_⟩))
    have e1 : (q.1 == i) = false := by rw [h2]; simpa using hk
    have e2 : (q.2.category == 2) = false := by rw [h4, cv_cat, h3]; rfl
    simp [e1, e2]
abbrev Fn : Type := State → List Frame → Array Value → State → Prop
def V (G : Gl) (Y : MI) (R : Room) (F : Fn) (gc gs pc : Nat) (L : List (Option Value)) (S : List Value) (h : Hp) : Prop :=
  ∀ (p : Program) (e : Env) (s : State) (m : MethodId) (args : Array Value) (below : List Frame) (meth : Method) (c : Code), Cx G Y p s m args meth c →
    ∀ (H : Heap) (locs : List Loc) (ls : Array Slot), va_S (AA G) s.heap H locs → HR G h H → lv_has ls Y.2.2.1 (pr G L 0) →
      W p G.1 e R s m args below meth c H locs gc gs (F s below args) (F0 m pc ls (S.map (cv G)))
def Qc (G : Gl) (Q : Option Value → Hp → Prop) : Array Value → State → Outcome → State → Prop := fun _ st o t =>
  (∃ (v : Option Value) (h' : Hp), o = .returned (v.map (cv G)) ∧ Q v h' ∧ HR G h' t.heap) ∧ va_F (AA G) st t
def FM (G : Gl) (R : Room) (Q : Option Value → Hp → Prop) : Fn := fun s below args => MQ below (Qc G Q) args s R.cells R.slots (AA G)
def Pc (G : Gl) (as : List Value) (h : Hp) : Array Value → State → Prop := fun v U => v = (as.map (cv G)).toArray ∧ HR G h U.heap ∧ KK G U ∧ SF G U U.heap ∧ gN G ≤ U.heap.size
def wsy (Y : MI) : List Cond := .code Y.1 Y.2.1 Y.2.2.1 Y.2.2.2 :: TBg
/-- the contract: called with these arguments over this heap, the method returns an answer and a heap with Q -/
def CM (G : Gl) (Y : MI) (R : Room) (as : List Value) (h : Hp) (Q : Option Value → Hp → Prop) : Prop := Met G.1 Y.1 (wsy Y) R (Pc G as h) (Qc G Q) R.cells R.slots (AA G)
def enL (as : List Value) (n : Nat) : List (Option Value) := as.map some ++ List.replicate (n - as.length) none
theorem en_args {G : Gl} : ∀ (as : List Value) (i : Nat), (∀ v ∈ as, v.category = 1) → ∀ (m : Nat), pr G (as.map some ++ List.replicate m none) i = lv_args i (as.map (cv G))
  | [], i, _, m => by
    show pr G (List.replicate m none) i = []
    induction m generalizing i with
    | zero => rfl
    | succ m ih => exact ih (i + 1)
  | v :: as, i, h, m => by
    have hv := h v List.mem_cons_self
    show pr G (some v :: (as.map some ++ List.replicate m none)) i = (i, cv G v) :: lv_args (if (cv G v).category = 2 then i + 2 else i + 1) (as.map (cv G))
    rw [pr, if_pos hv, cv_cat, hv, if_neg (by decide), en_args as (i + 1) (fun w hw => h w (List.mem_cons_of_mem _ hw)) m]
theorem sl_len {G : Gl} : ∀ (as : List Value), (∀ v ∈ as, v.category = 1) → (lg_sl (as.map (cv G))).length = as.length
  | [], _ => rfl
  | v :: as, h => by
    have hv := h v List.mem_cons_self
    have ih := sl_len (G := G) as (fun w hw => h w (List.mem_cons_of_mem _ hw))
    show (lg_sl (cv G v :: as.map (cv G))).length = as.length + 1
    rw [← ih]
    simp [lg_sl, cv_cat, hv]
theorem CM.of {G : Gl} {Y : MI} {R : Room} {as : List Value} {h : Hp} {Q : Option Value → Hp → Prop} (hp : plainName Y.1.cls = true) (hn : as.length ≤ Y.2.2.1) (hc : ∀ v ∈ as, v.category = 1)
    (hV : V G Y R (FM G R Q) 0 0 0 (enL as Y.2.2.1) [] h) : CM G Y R as h Q := by
  refine Met.ofW (cc := Y.2.1) (maxL := Y.2.2.1) (ret := Y.2.2.2) hp rfl ?_
  intro p e s m args below meth c s₁ B hml hv
  obtain ⟨rfl, hH, hK, hS, hN⟩ := hv
  have hts := atoms_spec (ws := wsy Y) B.pre
  rw [lg_entry_eq]
  have hl := lv_entry (as.map (cv G)) (n := Y.2.2.1) (by rw [sl_len as hc]; exact hn)
  rw [← en_args as 0 hc (Y.2.2.1 - as.length)] at hl
  exact hV p e s m _ below meth c ⟨B.exec, B.bytes, hml, B.returns, B.notSynchronized, (name_of_methodNamed B.named B.method).1, findClass_of_methodNamed B.named, fun w hw => hts w (List.mem_cons_of_mem _ hw), hK, hS, hN⟩ s.heap [] _ va_S.rf hH hl
theorem Pc.blind {G : Gl} {as : List Value} {h : Hp} : FrameBlind (Pc G as h) := by
  intro a U g mk q
  obtain ⟨q1, q2, q3, q4, q5⟩ := q
  exact ⟨q1, q2, KK.vm (s := U) rfl q3, q4.moved (Vm.Alike.refl U.vm), q5⟩
end
section
section RV
variable {G : Gl} {Y : MI} {R : Room} {F : Fn} {gc gs pc : Nat} {L : List (Option Value)} {S : List Value} {h : Hp}
theorem V_iconst {n : Int} (v : Int32) (hd : decode Y.2.1 pc = .ok (.iconst n, 1)) (hv : Int32.ofInt n = v) (K : V G Y R F gc gs (pc + 1) L (.int v :: S) h) : V G Y R F gc gs pc L S h := by
  intro p e s m args below meth c C H locs ls hS hH hl
  exact lv_iconst C.1 C.2.1 hd hv (K p e s m args below meth c C H locs ls hS hH hl)
theorem V_bipush {n : Int} (v : Int32) (hd : decode Y.2.1 pc = .ok (.bipush n, 2)) (hv : (Int8.ofInt n).toInt32 = v) (K : V G Y R F gc gs (pc + 2) L (.int v :: S) h) : V G Y R F gc gs pc L S h := by
  intro p e s m args below meth c C H locs ls hS hH hl
  exact lv_bipush C.1 C.2.1 hd hv (K p e s m args below meth c C H locs ls hS hH hl)
theorem V_sipush {n : Int} (v : Int32) (hd : decode Y.2.1 pc = .ok (.sipush n, 3)) (hv : (Int16.ofInt n).toInt32 = v) (K : V G Y R F gc gs (pc + 3) L (.int v :: S) h) : V G Y R F gc gs pc L S h := by
  intro p e s m args below meth c C H locs ls hS hH hl
  exact lv_sipush C.1 C.2.1 hd hv (K p e s m args below meth c C H locs ls hS hH hl)
theorem V_iload_n {k : Fin 4} {x : Int32} (hd : decode Y.2.1 pc = .ok (.iload_n k, 1)) (hL : L[(k : Nat)]? = some (some (.int x))) (K : V G Y R F gc gs (pc + 1) L (.int x :: S) h) : V G Y R F gc gs pc L S h := by
  intro p e s m args below meth c C H locs ls hS hH hl
  exact lv_iload_n C.1 C.2.1 hd rfl (pr_at hl hL rfl) (K p e s m args below meth c C H locs ls hS hH hl)
theorem V_aload_n {k : Fin 4} {x : Nat} (hd : decode Y.2.1 pc = .ok (.aload_n k, 1)) (hL : L[(k : Nat)]? = some (some (.ref x))) (K : V G Y R F gc gs (pc + 1) L (.ref x :: S) h) : V G Y R F gc gs pc L S h := by
  intro p e s m args below meth c C H locs ls hS hH hl
  exact lv_aload_n C.1 C.2.1 hd rfl (pr_at hl hL rfl) (K p e s m args below meth c C H locs ls hS hH hl)
theorem V_aload_nN {k : Fin 4} (hd : decode Y.2.1 pc = .ok (.aload_n k, 1)) (hL : L[(k : Nat)]? = some (some (.null))) (K : V G Y R F gc gs (pc + 1) L (.null :: S) h) : V G Y R F gc gs pc L S h := by
  intro p e s m args below meth c C H locs ls hS hH hl
  exact lv_aload_nN C.1 C.2.1 hd rfl (pr_at hl hL rfl) (K p e s m args below meth c C H locs ls hS hH hl)
theorem V_iload {i : Nat} {x : Int32} (hd : decode Y.2.1 pc = .ok (.iload i, 2)) (hL : L[i]? = some (some (.int x))) (K : V G Y R F gc gs (pc + 2) L (.int x :: S) h) : V G Y R F gc gs pc L S h := by
  intro p e s m args below meth c C H locs ls hS hH hl
  exact lv_iload C.1 C.2.1 hd (pr_at hl hL rfl) (K p e s m args below meth c C H locs ls hS hH hl)
theorem V_aload {i : Nat} {x : Nat} (hd : decode Y.2.1 pc = .ok (.aload i, 2)) (hL : L[i]? = some (some (.ref x))) (K : V G Y R F gc gs (pc + 2) L (.ref x :: S) h) : V G Y R F gc gs pc L S h := by
  intro p e s m args below meth c C H locs ls hS hH hl
  exact lv_aload C.1 C.2.1 hd (pr_at hl hL rfl) (K p e s m args below meth c C H locs ls hS hH hl)
theorem V_aloadN {i : Nat} (hd : decode Y.2.1 pc = .ok (.aload i, 2)) (hL : L[i]? = some (some (.null))) (K : V G Y R F gc gs (pc + 2) L (.null :: S) h) : V G Y R F gc gs pc L S h := by
  intro p e s m args below meth c C H locs ls hS hH hl
  exact lv_aloadN C.1 C.2.1 hd (pr_at hl hL rfl) (K p e s m args below meth c C H locs ls hS hH hl)
theorem V_istore_n {k : Fin 4} {x : Int32} (hd : decode Y.2.1 pc = .ok (.istore_n k, 1)) (hn : (k : Nat) < Y.2.2.1) (K : V G Y R F gc gs (pc + 1) (L.set (k : Nat) (some (.int x))) S h) : V G Y R F gc gs pc L (.int x :: S) h := by
  intro p e s m args below meth c C H locs ls hS hH hl
  exact lv_istore_n C.1 C.2.1 hd rfl hl hn rfl (fun ls' hl' => K p e s m args below meth c C H locs ls' hS hH (pr_set rfl hl'))
theorem V_astore_n {k : Fin 4} {x : Nat} (hd : decode Y.2.1 pc = .ok (.astore_n k, 1)) (hn : (k : Nat) < Y.2.2.1) (K : V G Y R F gc gs (pc + 1) (L.set (k : Nat) (some (.ref x))) S h) : V G Y R F gc gs pc L (.ref x :: S) h := by
  intro p e s m args below meth c C H locs ls hS hH hl
  exact lv_astore_n C.1 C.2.1 hd rfl hl hn rfl (fun ls' hl' => K p e s m args below meth c C H locs ls' hS hH (pr_set rfl hl'))
theorem V_astore_nN {k : Fin 4} (hd : decode Y.2.1 pc = .ok (.astore_n k, 1)) (hn : (k : Nat) < Y.2.2.1) (K : V G Y R F gc gs (pc + 1) (L.set (k : Nat) (some (.null))) S h) : V G Y R F gc gs pc L (.null :: S) h := by
  intro p e s m args below meth c C H locs ls hS hH hl
  exact lv_astore_nN C.1 C.2.1 hd rfl hl hn rfl (fun ls' hl' => K p e s m args below meth c C H locs ls' hS hH (pr_set rfl hl'))
theorem V_istore {i : Nat} {x : Int32} (hd : decode Y.2.1 pc = .ok (.istore i, 2)) (hn : i < Y.2.2.1) (K : V G Y R F gc gs (pc + 2) (L.set i (some (.int x))) S h) : V G Y R F gc gs pc L (.int x :: S) h := by
  intro p e s m args below meth c C H locs ls hS hH hl
  exact lv_istore C.1 C.2.1 hd hl hn rfl (fun ls' hl' => K p e s m args below meth c C H locs ls' hS hH (pr_set rfl hl'))
theorem V_astore {i : Nat} {x : Nat} (hd : decode Y.2.1 pc = .ok (.astore i, 2)) (hn : i < Y.2.2.1) (K : V G Y R F gc gs (pc + 2) (L.set i (some (.ref x))) S h) : V G Y R F gc gs pc L (.ref x :: S) h := by
  intro p e s m args below meth c C H locs ls hS hH hl
  exact lv_astore C.1 C.2.1 hd hl hn rfl (fun ls' hl' => K p e s m args below meth c C H locs ls' hS hH (pr_set rfl hl'))
theorem V_astoreN {i : Nat} (hd : decode Y.2.1 pc = .ok (.astore i, 2)) (hn : i < Y.2.2.1) (K : V G Y R F gc gs (pc + 2) (L.set i (some (.null))) S h) : V G Y R F gc gs pc L (.null :: S) h := by
  intro p e s m args below meth c C H locs ls hS hH hl
  exact lv_astoreN C.1 C.2.1 hd hl hn rfl (fun ls' hl' => K p e s m args below meth c C H locs ls' hS hH (pr_set rfl hl'))
theorem V_iinc {i : Nat} {n : Int} {x : Int32} (hd : decode Y.2.1 pc = .ok (.iinc i n, 3)) (hL : L[i]? = some (some (.int x))) (hn : i < Y.2.2.1) (K : V G Y R F gc gs (pc + 3) (L.set i (some (.int (x + Int32.ofInt n)))) S h) : V G Y R F gc gs pc L S h := by
  intro p e s m args below meth c C H locs ls hS hH hl
  obtain ⟨k, hk⟩ := List.getElem?_of_mem (pr_mem (G := G) (i := 0) (q := (i, Value.int x)) |>.mpr ⟨i, _, hL, by simp, rfl, rfl⟩)
  exact lv_iinc C.1 C.2.1 hd hl hk rfl hn rfl (fun ls' hl' => K p e s m args below meth c C H locs ls' hS hH (pr_set rfl hl'))
theorem V_iadd {x y : Int32} (hd : decode Y.2.1 pc = .ok (.iadd, 1)) (K : V G Y R F gc gs (pc + 1) L (.int (x + y) :: S) h) : V G Y R F gc gs pc L (.int y :: .int x :: S) h := by
  intro p e s m args below meth c C H locs ls hS hH hl
  exact lv_iadd C.1 C.2.1 hd (K p e s m args below meth c C H locs ls hS hH hl)
theorem V_isub {x y : Int32} (hd : decode Y.2.1 pc = .ok (.isub, 1)) (K : V G Y R F gc gs (pc + 1) L (.int (x - y) :: S) h) : V G Y R F gc gs pc L (.int y :: .int x :: S) h := by
  intro p e s m args below meth c C H locs ls hS hH hl
  exact lv_isub C.1 C.2.1 hd (K p e s m args below meth c C H locs ls hS hH hl)
theorem V_imul {x y : Int32} (hd : decode Y.2.1 pc = .ok (.imul, 1)) (K : V G Y R F gc gs (pc + 1) L (.int (x * y) :: S) h) : V G Y R F gc gs pc L (.int y :: .int x :: S) h := by
  intro p e s m args below meth c C H locs ls hS hH hl
  exact lv_imul C.1 C.2.1 hd (K p e s m args below meth c C H locs ls hS hH hl)
theorem V_iand {x y : Int32} (hd : decode Y.2.1 pc = .ok (.iand, 1)) (K : V G Y R F gc gs (pc + 1) L (.int (x &&& y) :: S) h) : V G Y R F gc gs pc L (.int y :: .int x :: S) h := by
  intro p e s m args below meth c C H locs ls hS hH hl
  exact lv_iand C.1 C.2.1 hd (K p e s m args below meth c C H locs ls hS hH hl)
theorem V_ior {x y : Int32} (hd : decode Y.2.1 pc = .ok (.ior, 1)) (K : V G Y R F gc gs (pc + 1) L (.int (x ||| y) :: S) h) : V G Y R F gc gs pc L (.int y :: .int x :: S) h := by
  intro p e s m args below meth c C H locs ls hS hH hl
  exact lv_ior C.1 C.2.1 hd (K p e s m args below meth c C H locs ls hS hH hl)
theorem V_ixor {x y : Int32} (hd : decode Y.2.1 pc = .ok (.ixor, 1)) (K : V G Y R F gc gs (pc + 1) L (.int (x ^^^ y) :: S) h) : V G Y R F gc gs pc L (.int y :: .int x :: S) h := by
  intro p e s m args below meth c C H locs ls hS hH hl
  exact lv_ixor C.1 C.2.1 hd (K p e s m args below meth c C H locs ls hS hH hl)
theorem V_ishl {x y : Int32} (hd : decode Y.2.1 pc = .ok (.ishl, 1)) (K : V G Y R F gc gs (pc + 1) L (.int (x <<< (y &&& 31)) :: S) h) : V G Y R F gc gs pc L (.int y :: .int x :: S) h := by
  intro p e s m args below meth c C H locs ls hS hH hl
  exact lv_ishl C.1 C.2.1 hd (K p e s m args below meth c C H locs ls hS hH hl)
theorem V_ishr {x y : Int32} (hd : decode Y.2.1 pc = .ok (.ishr, 1)) (K : V G Y R F gc gs (pc + 1) L (.int (x >>> (y &&& 31)) :: S) h) : V G Y R F gc gs pc L (.int y :: .int x :: S) h := by
  intro p e s m args below meth c C H locs ls hS hH hl
  exact lv_ishr C.1 C.2.1 hd (K p e s m args below meth c C H locs ls hS hH hl)
theorem V_idiv {x y : Int32} (hd : decode Y.2.1 pc = .ok (.idiv, 1)) (hne : ¬ y = 0) (K : V G Y R F gc gs (pc + 1) L (.int (x / y) :: S) h) : V G Y R F gc gs pc L (.int y :: .int x :: S) h := by
  intro p e s m args below meth c C H locs ls hS hH hl
  exact lv_idiv C.1 C.2.1 hd hne (K p e s m args below meth c C H locs ls hS hH hl)
theorem V_irem {x y : Int32} (hd : decode Y.2.1 pc = .ok (.irem, 1)) (hne : ¬ y = 0) (K : V G Y R F gc gs (pc + 1) L (.int (x - x / y * y) :: S) h) : V G Y R F gc gs pc L (.int y :: .int x :: S) h := by
  intro p e s m args below meth c C H locs ls hS hH hl
  exact lv_irem C.1 C.2.1 hd hne (K p e s m args below meth c C H locs ls hS hH hl)
theorem V_ineg {x : Int32} (hd : decode Y.2.1 pc = .ok (.ineg, 1)) (K : V G Y R F gc gs (pc + 1) L (.int (-x) :: S) h) : V G Y R F gc gs pc L (.int x :: S) h := by
  intro p e s m args below meth c C H locs ls hS hH hl
  exact lv_ineg C.1 C.2.1 hd (K p e s m args below meth c C H locs ls hS hH hl)
theorem V_i2b {x : Int32} (hd : decode Y.2.1 pc = .ok (.i2b, 1)) (K : V G Y R F gc gs (pc + 1) L (.int x.toInt8.toInt32 :: S) h) : V G Y R F gc gs pc L (.int x :: S) h := by
  intro p e s m args below meth c C H locs ls hS hH hl
  exact lv_i2b C.1 C.2.1 hd rfl (K p e s m args below meth c C H locs ls hS hH hl)
theorem V_iushr {x y : Int32} (hd : decode Y.2.1 pc = .ok (.iushr, 1)) (K : V G Y R F gc gs (pc + 1) L (.int (x.toUInt32 >>> (y.toUInt32 &&& Int32.toUInt32 31)).toInt32 :: S) h) : V G Y R F gc gs pc L (.int y :: .int x :: S) h := by
  intro p e s m args below meth c C H locs ls hS hH hl
  exact lv_iushr C.1 C.2.1 hd rfl (K p e s m args below meth c C H locs ls hS hH hl)
theorem V_dup {v : Value} (hd : decode Y.2.1 pc = .ok (.dup, 1)) (hv : v.category = 1) (K : V G Y R F gc gs (pc + 1) L (v :: v :: S) h) : V G Y R F gc gs pc L (v :: S) h := by
  intro p e s m args below meth c C H locs ls hS hH hl
  exact lv_dup C.1 C.2.1 hd ((cv_cat G v).trans hv) (K p e s m args below meth c C H locs ls hS hH hl)
theorem V_dup_x1 {v w : Value} (hd : decode Y.2.1 pc = .ok (.dup_x1, 1)) (hv : v.category = 1) (hw : w.category = 1) (K : V G Y R F gc gs (pc + 1) L (v :: w :: v :: S) h) : V G Y R F gc gs pc L (v :: w :: S) h := by
  intro p e s m args below meth c C H locs ls hS hH hl
  exact lv_dup_x1 C.1 C.2.1 hd ((cv_cat G v).trans hv) ((cv_cat G w).trans hw) (K p e s m args below meth c C H locs ls hS hH hl)
theorem V_dup2 {v w : Value} (hd : decode Y.2.1 pc = .ok (.dup2, 1)) (hv : v.category = 1) (hw : w.category = 1) (K : V G Y R F gc gs (pc + 1) L (v :: w :: v :: w :: S) h) : V G Y R F gc gs pc L (v :: w :: S) h := by
  intro p e s m args below meth c C H locs ls hS hH hl
  exact lv_dup2_11 C.1 C.2.1 hd ((cv_cat G v).trans hv) ((cv_cat G w).trans hw) (K p e s m args below meth c C H locs ls hS hH hl)
theorem V_if_eq {x : Int32} {off : Int} (tgt : Nat) (hd : decode Y.2.1 pc = .ok (.ifCond .eq off, 3)) (ht : (pc : Int) + off = (tgt : Int)) (kt : x = 0 → V G Y R F gc gs tgt L S h) (kf : ¬ (x = 0) → V G Y R F gc gs (pc + 3) L S h) : V G Y R F gc gs pc L (.int x :: S) h := by
  intro p e s m args below meth c C H locs ls hS hH hl
  exact lv_if_eq C.1 C.2.1 hd ht (fun hc => kt hc p e s m args below meth c C H locs ls hS hH hl) (fun hc => kf hc p e s m args below meth c C H locs ls hS hH hl)
theorem V_if_ne {x : Int32} {off : Int} (tgt : Nat) (hd : decode Y.2.1 pc = .ok (.ifCond .ne off, 3)) (ht : (pc : Int) + off = (tgt : Int)) (kt : ¬ x = 0 → V G Y R F gc gs tgt L S h) (kf : x = 0 → V G Y R F gc gs (pc + 3) L S h) : V G Y R F gc gs pc L (.int x :: S) h := by
  intro p e s m args below meth c C H locs ls hS hH hl
  exact lv_if_ne C.1 C.2.1 hd ht (fun hc => kt hc p e s m args below meth c C H locs ls hS hH hl) (fun hc => kf hc p e s m args below meth c C H locs ls hS hH hl)
theorem V_if_lt {x : Int32} {off : Int} (tgt : Nat) (hd : decode Y.2.1 pc = .ok (.ifCond .lt off, 3)) (ht : (pc : Int) + off = (tgt : Int)) (kt : x < 0 → V G Y R F gc gs tgt L S h) (kf : ¬ (x < 0) → V G Y R F gc gs (pc + 3) L S h) : V G Y R F gc gs pc L (.int x :: S) h := by
  intro p e s m args below meth c C H locs ls hS hH hl
  exact lv_if_lt C.1 C.2.1 hd ht (fun hc => kt hc p e s m args below meth c C H locs ls hS hH hl) (fun hc => kf hc p e s m args below meth c C H locs ls hS hH hl)
theorem V_if_ge {x : Int32} {off : Int} (tgt : Nat) (hd : decode Y.2.1 pc = .ok (.ifCond .ge off, 3)) (ht : (pc : Int) + off = (tgt : Int)) (kt : 0 ≤ x → V G Y R F gc gs tgt L S h) (kf : ¬ (0 ≤ x) → V G Y R F gc gs (pc + 3) L S h) : V G Y R F gc gs pc L (.int x :: S) h := by
  intro p e s m args below meth c C H locs ls hS hH hl
  exact lv_if_ge C.1 C.2.1 hd ht (fun hc => kt hc p e s m args below meth c C H locs ls hS hH hl) (fun hc => kf hc p e s m args below meth c C H locs ls hS hH hl)
theorem V_if_gt {x : Int32} {off : Int} (tgt : Nat) (hd : decode Y.2.1 pc = .ok (.ifCond .gt off, 3)) (ht : (pc : Int) + off = (tgt : Int)) (kt : 0 < x → V G Y R F gc gs tgt L S h) (kf : ¬ (0 < x) → V G Y R F gc gs (pc + 3) L S h) : V G Y R F gc gs pc L (.int x :: S) h := by
  intro p e s m args below meth c C H locs ls hS hH hl
  exact lv_if_gt C.1 C.2.1 hd ht (fun hc => kt hc p e s m args below meth c C H locs ls hS hH hl) (fun hc => kf hc p e s m args below meth c C H locs ls hS hH hl)
theorem V_if_le {x : Int32} {off : Int} (tgt : Nat) (hd : decode Y.2.1 pc = .ok (.ifCond .le off, 3)) (ht : (pc : Int) + off = (tgt : Int)) (kt : x ≤ 0 → V G Y R F gc gs tgt L S h) (kf : ¬ (x ≤ 0) → V G Y R F gc gs (pc + 3) L S h) : V G Y R F gc gs pc L (.int x :: S) h := by
  intro p e s m args below meth c C H locs ls hS hH hl
  exact lv_if_le C.1 C.2.1 hd ht (fun hc => kt hc p e s m args below meth c C H locs ls hS hH hl) (fun hc => kf hc p e s m args below meth c C H locs ls hS hH hl)
theorem V_icmp_eq {x y : Int32} {off : Int} (tgt : Nat) (hd : decode Y.2.1 pc = .ok (.if_icmp .eq off, 3)) (ht : (pc : Int) + off = (tgt : Int)) (kt : x = y → V G Y R F gc gs tgt L S h) (kf : ¬ (x = y) → V G Y R F gc gs (pc + 3) L S h) : V G Y R F gc gs pc L (.int y :: .int x :: S) h := by
  intro p e s m args below meth c C H locs ls hS hH hl
  exact lv_icmp_eq C.1 C.2.1 hd ht (fun hc => kt hc p e s m args below meth c C H locs ls hS hH hl) (fun hc => kf hc p e s m args below meth c C H locs ls hS hH hl)
theorem V_icmp_ne {x y : Int32} {off : Int} (tgt : Nat) (hd : decode Y.2.1 pc = .ok (.if_icmp .ne off, 3)) (ht : (pc : Int) + off = (tgt : Int)) (kt : ¬ x = y → V G Y R F gc gs tgt L S h) (kf : x = y → V G Y R F gc gs (pc + 3) L S h) : V G Y R F gc gs pc L (.int y :: .int x :: S) h := by
  intro p e s m args below meth c C H locs ls hS hH hl
  exact lv_icmp_ne C.1 C.2.1 hd ht (fun hc => kt hc p e s m args below meth c C H locs ls hS hH hl) (fun hc => kf hc p e s m args below meth c C H locs ls hS hH hl)
theorem V_icmp_lt {x y : Int32} {off : Int} (tgt : Nat) (hd : decode Y.2.1 pc = .ok (.if_icmp .lt off, 3)) (ht : (pc : Int) + off = (tgt : Int)) (kt : x < y → V G Y R F gc gs tgt L S h) (kf : ¬ (x < y) → V G Y R F gc gs (pc + 3) L S h) : V G Y R F gc gs pc L (.int y :: .int x :: S) h := by
  intro p e s m args below meth c C H locs ls hS hH hl
  exact lv_icmp_lt C.1 C.2.1 hd ht (fun hc => kt hc p e s m args below meth c C H locs ls hS hH hl) (fun hc => kf hc p e s m args below meth c C H locs ls hS hH hl)
theorem V_icmp_ge {x y : Int32} {off : Int} (tgt : Nat) (hd : decode Y.2.1 pc = .ok (.if_icmp .ge off, 3)) (ht : (pc : Int) + off = (tgt : Int)) (kt : y ≤ x → V G Y R F gc gs tgt L S h) (kf : ¬ (y ≤ x) → V G Y R F gc gs (pc + 3) L S h) : V G Y R F gc gs pc L (.int y :: .int x :: S) h := by
  intro p e s m args below meth c C H locs ls hS hH hl
  exact lv_icmp_ge C.1 C.2.1 hd ht (fun hc => kt hc p e s m args below meth c C H locs ls hS hH hl) (fun hc => kf hc p e s m args below meth c C H locs ls hS hH hl)
theorem V_icmp_gt {x y : Int32} {off : Int} (tgt : Nat) (hd : decode Y.2.1 pc = .ok (.if_icmp .gt off, 3)) (ht : (pc : Int) + off = (tgt : Int)) (kt : y < x → V G Y R F gc gs tgt L S h) (kf : ¬ (y < x) → V G Y R F gc gs (pc + 3) L S h) : V G Y R F gc gs pc L (.int y :: .int x :: S) h := by
  intro p e s m args below meth c C H locs ls hS hH hl
  exact lv_icmp_gt C.1 C.2.1 hd ht (fun hc => kt hc p e s m args below meth c C H locs ls hS hH hl) (fun hc => kf hc p e s m args below meth c C H locs ls hS hH hl)
theorem V_icmp_le {x y : Int32} {off : Int} (tgt : Nat) (hd : decode Y.2.1 pc = .ok (.if_icmp .le off, 3)) (ht : (pc : Int) + off = (tgt : Int)) (kt : x ≤ y → V G Y R F gc gs tgt L S h) (kf : ¬ (x ≤ y) → V G Y R F gc gs (pc + 3) L S h) : V G Y R F gc gs pc L (.int y :: .int x :: S) h := by
  intro p e s m args below meth c C H locs ls hS hH hl
  exact lv_icmp_le C.1 C.2.1 hd ht (fun hc => kt hc p e s m args below meth c C H locs ls hS hH hl) (fun hc => kf hc p e s m args below meth c C H locs ls hS hH hl)
theorem V_goto {off : Int} (tgt : Nat) (hd : decode Y.2.1 pc = .ok (.goto off, 3)) (ht : (pc : Int) + off = (tgt : Int)) (K : V G Y R F gc gs tgt L S h) : V G Y R F gc gs pc L S h := by
  intro p e s m args below meth c C H locs ls hS hH hl
  exact lv_goto C.1 C.2.1 hd ht (K p e s m args below meth c C H locs ls hS hH hl)
theorem V_null (hd : decode Y.2.1 pc = .ok (.aconst_null, 1)) (K : V G Y R F gc gs (pc + 1) L (.null :: S) h) : V G Y R F gc gs pc L S h := by
  intro p e s m args below meth c C H locs ls hS hH hl
  exact lv_null C.1 C.2.1 hd (K p e s m args below meth c C H locs ls hS hH hl)
theorem V_ifnonnull {x : Nat} {off : Int} (tgt : Nat) (hd : decode Y.2.1 pc = .ok (.ifnonnull off, 3)) (ht : (pc : Int) + off = (tgt : Int)) (K : V G Y R F gc gs tgt L S h) : V G Y R F gc gs pc L (.ref x :: S) h := by
  intro p e s m args below meth c C H locs ls hS hH hl
  exact lv_ifnonnull C.1 C.2.1 hd ht (K p e s m args below meth c C H locs ls hS hH hl)
theorem V_ifnull {x : Nat} {off : Int} (hd : decode Y.2.1 pc = .ok (.ifnull off, 3)) (K : V G Y R F gc gs (pc + 3) L S h) : V G Y R F gc gs pc L (.ref x :: S) h := by
  intro p e s m args below meth c C H locs ls hS hH hl
  exact lv_ifnull C.1 C.2.1 hd (K p e s m args below meth c C H locs ls hS hH hl)
theorem V_ifnullN {off : Int} (tgt : Nat) (hd : decode Y.2.1 pc = .ok (.ifnull off, 3)) (ht : (pc : Int) + off = (tgt : Int)) (K : V G Y R F gc gs tgt L S h) : V G Y R F gc gs pc L (.null :: S) h := by
  intro p e s m args below meth c C H locs ls hS hH hl
  exact lv_ifnullN C.1 C.2.1 hd ht (K p e s m args below meth c C H locs ls hS hH hl)
theorem V_ifnonnullN {off : Int} (hd : decode Y.2.1 pc = .ok (.ifnonnull off, 3)) (K : V G Y R F gc gs (pc + 3) L S h) : V G Y R F gc gs pc L (.null :: S) h := by
  intro p e s m args below meth c C H locs ls hS hH hl
  exact lv_ifnonnullN C.1 C.2.1 hd (K p e s m args below meth c C H locs ls hS hH hl)
theorem V_tableOut {dflt lo hi : Int} {offs : Array Int} {len : Nat} {x : Int32} (tgt : Nat) (hd : decode Y.2.1 pc = .ok (.tableswitch dflt lo hi offs, len)) (hx : x.toInt < lo ∨ hi < x.toInt) (ht : (pc : Int) + dflt = (tgt : Int)) (K : V G Y R F gc gs tgt L S h) : V G Y R F gc gs pc L (.int x :: S) h := by
  intro p e s m args below meth c C H locs ls hS hH hl
  exact lv_tableOut C.1 C.2.1 hd hx ht (K p e s m args below meth c C H locs ls hS hH hl)
theorem V_tableIn {dflt lo hi : Int} {offs : Array Int} {len : Nat} {x : Int32} {off : Int} (tgt : Nat) (hd : decode Y.2.1 pc = .ok (.tableswitch dflt lo hi offs, len)) (h1 : ¬ x.toInt < lo) (h2 : ¬ hi < x.toInt) (ho : offs[(x.toInt - lo).toNat]? = some off) (ht : (pc : Int) + off = (tgt : Int)) (K : V G Y R F gc gs tgt L S h) : V G Y R F gc gs pc L (.int x :: S) h := by
  intro p e s m args below meth c C H locs ls hS hH hl
  exact lv_tableIn C.1 C.2.1 hd h1 h2 ho ht (K p e s m args below meth c C H locs ls hS hH hl)
theorem V_lookup {dflt : Int} {ps : Array (Int × Int)} {len : Nat} {x : Int32} {off : Int} (tgt : Nat) (hd : decode Y.2.1 pc = .ok (.lookupswitch dflt ps, len)) (hp : (ps.toList.zip (ps.toList.drop 1)).all (fun (a, next) => a.1 < next.1) = true) (ho : Op.lookupswitch.offset ps.toList dflt x.toInt = off) (ht : (pc : Int) + off = (tgt : Int)) (K : V G Y R F gc gs tgt L S h) : V G Y R F gc gs pc L (.int x :: S) h := by
  intro p e s m args below meth c C H locs ls hS hH hl
  exact lv_lookup C.1 C.2.1 hd hp ho ht (K p e s m args below meth c C H locs ls hS hH hl)
theorem V_ldc {idx : Nat} {v : Int32} (hd : decode Y.2.1 pc = .ok (.ldc idx, 2)) (w : Cond.constant Y.1.cls idx v ∈ TBg) (K : V G Y R F gc gs (pc + 2) L (.int v :: S) h) : V G Y R F gc gs pc L S h := by
  intro p e s m args below meth c C H locs ls hS hH hl
  exact lv_ldc C.1 C.2.1 C.2.2.2.2.2.2.1 (C.2.2.2.2.2.2.2.1 _ w) hd (K p e s m args below meth c C H locs ls hS hH hl)
theorem V_ldcw {idx : Nat} {v : Int32} (hd : decode Y.2.1 pc = .ok (.ldc_w idx, 3)) (w : Cond.constant Y.1.cls idx v ∈ TBg) (K : V G Y R F gc gs (pc + 3) L (.int v :: S) h) : V G Y R F gc gs pc L S h := by
  intro p e s m args below meth c C H locs ls hS hH hl
  exact lv_ldcw C.1 C.2.1 C.2.2.2.2.2.2.1 (C.2.2.2.2.2.2.2.1 _ w) hd (K p e s m args below meth c C H locs ls hS hH hl)
end RV
end
section
def up2 {α : Type} (f : Nat → Nat → α) (a i : Nat) (x : α) : Nat → Nat → α := fun b j => if b = a ∧ j = i then x else f b j
theorem up2_row {α : Type} (f : Nat → Nat → α) (a i : Nat) (x : α) {b : Nat} (h : b ≠ a) : up2 f a i x b = f b := by
  funext j
  simp [up2, h]
theorem up2_own {α : Type} (f : Nat → Nat → α) (a i : Nat) (x : α) (j : Nat) : up2 f a i x a j = if j = i then x else f a j := by
  simp [up2]
/-- ints in place i of cell a; a reference there; a new cell of kind t and length n -/
def sI (h : Hp) (a i : Nat) (x : Int32) : Hp := (up2 h.1 a i x, h.2)
def sR (h : Hp) (a i : Nat) (x : Option Nat) : Hp := (h.1, up2 h.2.1 a i x, h.2.2)
def nw (h : Hp) (t n : Nat) : Hp := (fun a i => if a = h.2.2.2.2 then 0 else h.1 a i, fun a i => if a = h.2.2.2.2 then none else h.2.1 a i, fun a => if a = h.2.2.2.2 then t else h.2.2.1 a, fun a => if a = h.2.2.2.2 then n else h.2.2.2.1 a, h.2.2.2.2 + 1)
/-- a field's words: of the class with number c the field in place j -/
def CkF (own : String) (idx c j : Nat) (d : String) (b fin : Bool) : Prop := ∃ q : vw_C, cl_[c]? = some q ∧ j < q.2.2 ∧ (isR c j = b ∧ (q.2.1 j).2.2.1 = d ∧ (q.2.1 j).2.2.2 = fin) ∧ (q.2.1 j).1 = q.1 ∧
  (Cond.fieldLink own idx q.1 (q.2.1 j).2.1 (q.2.1 j).2.2.1 ∈ TBg ∨ ∃ host, Cond.fieldLinkNest own idx q.1 (q.2.1 j).2.1 (q.2.1 j).2.2.1 host ∈ TBn)
section RH
variable {G : Gl} {Y : MI} {R : Room} {F : Fn} {gc gs pc : Nat} {L : List (Option Value)} {S : List Value} {h : Hp}
theorem V_get {idx c j k : Nat} {d : String} {b fin : Bool} (hd : decode Y.2.1 pc = .ok (.getfield idx, 3)) (w : CkF Y.1.cls idx c j d b fin) (hT : h.2.2.1 k = c + 1)
    {v : Value} (hv : cv G v = if isR c j = true then rv G (h.2.1 k j) else .int (h.1 k j)) (K : V G Y R F gc gs (pc + 3) L (v :: S) h) : V G Y R F gc gs pc L (.ref k :: S) h := by
  intro p e s m args below meth cd C H locs ls hS hH hl
  obtain ⟨C1, C2, C3, C4, C5, C6, C7, C8, C9, C10, C11⟩ := id C
  obtain ⟨q, hq, hj, hb, hdc, hw⟩ := w
  obtain ⟨k1, k2, k3⟩ := hH.2.2 k (by rw [hT]; omega)
  rw [hT] at k3
  obtain ⟨q', hq', cell, g1, g2, g3, g4⟩ := k3.o (cl_len hq)
  cases hq.symm.trans hq'
  obtain ⟨hSl, hfc, kC, hkC, hkind⟩ := C9.1 c q hq
  obtain ⟨cf, kf, fi, f, hi, hsl⟩ := hSl j hj
  have hst := (u_facts hfc hkC (u_lays C8 (cl_in c q hq) hj) hi).1
  have hv' : cell.slots[f.slot]? = some (cv G v) := by rw [hsl, g4 j hj, hv]
  rw [hdc] at hi
  rcases hw with hw | ⟨host, hw⟩
  · exact W.getf C1 C2 C7 (C8 _ hw) hi hst g1 (by rw [g3]; exact fun h => by cases h) hv' rfl rfl hd (K p e s m args below meth cd C H locs ls hS hH hl)
  · exact va_Wgetf C1 C2 C7 (va_Nw.use rfl (C9.2.2.2.2 _ hw)) hi hst g1 (by rw [g3]; exact fun h => by cases h) hv' rfl rfl hd (K p e s m args below meth cd C H locs ls hS hH hl)
theorem V_getI {idx c j k : Nat} {d : String} {fin : Bool} (hd : decode Y.2.1 pc = .ok (.getfield idx, 3)) (w : CkF Y.1.cls idx c j d false fin) (hT : h.2.2.1 k = c + 1)
    (K : V G Y R F gc gs (pc + 3) L (.int (h.1 k j) :: S) h) : V G Y R F gc gs pc L (.ref k :: S) h :=
  V_get hd w hT (by obtain ⟨q, hq, hj, hb, hw⟩ := w; rw [hb.1]; rfl) K
theorem V_getQ {idx c j k : Nat} {d : String} {fin : Bool} (hd : decode Y.2.1 pc = .ok (.getfield idx, 3)) (w : CkF Y.1.cls idx c j d true fin) (hT : h.2.2.1 k = c + 1)
    (K : V G Y R F gc gs (pc + 3) L (rfv (h.2.1 k j) :: S) h) : V G Y R F gc gs pc L (.ref k :: S) h :=
  V_get hd w hT (by obtain ⟨q, hq, hj, hb, hw⟩ := w; rw [hb.1, if_pos rfl, cv_rfv]) K
theorem V_getR {idx c j k x : Nat} {d : String} {fin : Bool} (hd : decode Y.2.1 pc = .ok (.getfield idx, 3)) (w : CkF Y.1.cls idx c j d true fin) (hT : h.2.2.1 k = c + 1) (hR : h.2.1 k j = some x)
    (K : V G Y R F gc gs (pc + 3) L (.ref x :: S) h) : V G Y R F gc gs pc L (.ref k :: S) h :=
  V_getQ hd w hT (by rw [hR]; exact K)
theorem V_put {idx c j k : Nat} {d : String} {b fin : Bool} {v : Value} {h' : Hp} (hd : decode Y.2.1 pc = .ok (.putfield idx, 3)) (w : CkF Y.1.cls idx c j d b fin) (hfin : fin = true → Y.1.name = "<init>" ∧ ∃ q : vw_C, cl_[c]? = some q ∧ q.1 = Y.1.cls) (hT : h.2.2.1 k = c + 1)
    (hty : ∃ ty, parseFieldDescriptor d = some ty ∧ narrow ty (cv G v) = cv G v ∧ fits ty (cv G v) = true) (h1 : h'.2.2 = h.2.2) (h2 : ∀ i, i ≠ k → h'.1 i = h.1 i ∧ h'.2.1 i = h.2.1 i)
    (h3 : ∀ i, (if isR c i = true then rv G (h'.2.1 k i) else .int (h'.1 k i)) = if i = j then cv G v else (if isR c i = true then rv G (h.2.1 k i) else .int (h.1 k i)))
    (K : V G Y R F gc gs (pc + 3) L S h') : V G Y R F gc gs pc L (v :: .ref k :: S) h := by
  intro p e s m args below meth cd C H locs ls hS hH hl
  obtain ⟨C1, C2, C3, C4, C5, C6, C7, C8, C9, C10, C11⟩ := id C
  obtain ⟨q, hq, hj, ⟨hb, hdd, hff⟩, hdc, hw⟩ := w
  obtain ⟨k1, k2, k3⟩ := hH.2.2 k (by rw [hT]; omega)
  rw [hT] at k3
  obtain ⟨q', hq', cell, g1, g2, g3, g4⟩ := k3.o (cl_len hq)
  cases hq.symm.trans hq'
  obtain ⟨ty, hpd, hn, hfit⟩ := hty
  obtain ⟨ty0, hty0⟩ := cl_ty c q hq
  have hK' : va_K (G.2.2.1, G.2.2.2.1) cl_ [] s := ⟨C9.1, fun _ _ h => by simp at h⟩
  have hap := va_apart (own := Y.1.cls) C8 (cl_in c q hq) ty0 hty0 (cl_nm c q hq) hK' hq
  obtain ⟨hSl, hfc, kC, hkC, hkind⟩ := C9.1 c q hq
  obtain ⟨cf, kf, fi, f, hi, hsl⟩ := hSl j hj
  have hlay0 := u_lays C8 (cl_in c q hq) hj
  have hst := (u_facts hfc hkC hlay0 hi).1
  have h6 := u_fits hfc hkC hkind hlay0 hi (by rw [hdd]; exact hpd) hn hfit
  have fin' : hasFlag f.accessFlags Acc.final = false ∨ (m.cls = cf ∧ meth.name = "<init>") := by
    have hlay := C8 _ (cl_in c q hq _ (u_in_lay hj))
    unfold u_lay at hlay
    cases fin with
    | false =>
      rw [if_neg (by rw [hff]; decide)] at hlay
      exact Or.inl (u_store hfc hkC hkind hlay hi (by rw [hdd]; exact hpd) hn hfit).1
    | true =>
      rw [if_pos hff] at hlay
      obtain ⟨f1, q2, hq2, f2⟩ := hfin rfl
      cases hq.symm.trans hq2
      obtain ⟨_, _, c', _, _, _, -, -, hf', -, -, -, hown2, -⟩ := Cond.laysFinal_spec hlay
      have e1 : c' = cf := by have := hi.symm.trans hf'; simp at this; exact this.1.symm
      rw [hdc, f2] at hown2
      exact Or.inr ⟨by rw [← e1]; exact Option.some.inj (C7.symm.trans hown2), by rw [C6]; exact f1⟩
  rw [hdc] at hi
  have ha : ad G k < H.size := (Array.getElem?_eq_some_iff.mp g1).1
  have hlt : f.slot < cell.slots.size := by rw [hsl]; exact k2_hasslot (g4 j hj)
  have cont : W p G.1 e R s m args below meth cd (H.setIfInBounds (ad G k) (cell.setSlot f.slot (cv G v))) (locs ++ [⟨ad G k, f.slot⟩]) gc gs (F s below args) (F0 m (pc + 3) ls (S.map (cv G))) := by
    have e2 : (H.setIfInBounds (ad G k) (cell.setSlot f.slot (cv G v))).size = H.size := by simp
    have e3 : ∀ x, x ≠ ad G k → (H.setIfInBounds (ad G k) (cell.setSlot f.slot (cv G v)))[x]? = H[x]? := fun x hx => by simp [Array.getElem?_setIfInBounds, Ne.symm hx]
    refine K p e s m args below meth cd C _ _ ls (hS.put e2 e3 (by rw [ad_ge G k1]; exact Nat.le_add_right _ _)) (hH.put k1 e2 e3 h1 h2 ?_) hl
    rw [hT]
    refine Or.inl ⟨c, q, rfl, hq, t_OB.to (V := updV (fun i => if isR c i = true then rv G (h.2.1 k i) else .int (h.1 k i)) j (cv G v)) ⟨cell.setSlot f.slot (cv G v), by simp [Array.getElem?_setIfInBounds, ha], g2, g3, by rw [hsl]; exact t_set g4 hap hj _⟩ (fun i _ => ?_)⟩
    rw [h3 i]
    rfl
  rcases hw with hw | ⟨host, hw⟩
  · exact W.putf C1 C2 C7 (C8 _ hw) hi hst fin' g1 (by rw [g3]; exact fun h => by cases h) hlt h6.1 (by rw [g2, g3]; exact h6.2) rfl rfl hd cont
  · exact va_Wputf C1 C2 C7 (va_Nw.use rfl (C9.2.2.2.2 _ hw)) hi hst fin' g1 (by rw [g3]; exact fun h => by cases h) hlt h6.1 (by rw [g2, g3]; exact h6.2) rfl rfl hd cont
theorem V_putI {idx c j k : Nat} {x : Int32} (hd : decode Y.2.1 pc = .ok (.putfield idx, 3)) (w : CkF Y.1.cls idx c j "I" false false) (hT : h.2.2.1 k = c + 1)
    (K : V G Y R F gc gs (pc + 3) L S (sI h k j x)) : V G Y R F gc gs pc L (.int x :: .ref k :: S) h := by
  refine V_put (h' := sI h k j x) hd w (fun h => by cases h) hT ⟨.int, rfl, rfl, rfl⟩ rfl (fun i hi => ⟨up2_row _ _ _ _ hi, rfl⟩) (fun i => ?_) K
  have hb : isR c j = false := by obtain ⟨q, hq, hj, hb, hw⟩ := w; exact hb.1
  show (if isR c i = true then rv G (h.2.1 k i) else .int (up2 h.1 k j x k i)) = _
  rw [up2_own]
  by_cases hi : i = j
  · subst hi; simp [hb]; rfl
  · simp [hi]
theorem V_putZ {idx c j k : Nat} {x : Int32} (hd : decode Y.2.1 pc = .ok (.putfield idx, 3)) (w : CkF Y.1.cls idx c j "Z" false false) (hT : h.2.2.1 k = c + 1) (hx : x = 0 ∨ x = 1)
    (K : V G Y R F gc gs (pc + 3) L S (sI h k j x)) : V G Y R F gc gs pc L (.int x :: .ref k :: S) h := by
  refine V_put (h' := sI h k j x) hd w (fun h => by cases h) hT ⟨.boolean, rfl, by rcases hx with rfl | rfl <;> rfl, by rcases hx with rfl | rfl <;> rfl⟩ rfl (fun i hi => ⟨up2_row _ _ _ _ hi, rfl⟩) (fun i => ?_) K
  have hb : isR c j = false := by obtain ⟨q, hq, hj, hb, hw⟩ := w; exact hb.1
  show (if isR c i = true then rv G (h.2.1 k i) else .int (up2 h.1 k j x k i)) = _
  rw [up2_own]
  by_cases hi : i = j
  · subst hi; simp [hb]; rfl
  · simp [hi]
theorem V_putQ {idx c j k x : Nat} {d : String} {fin : Bool} (hd : decode Y.2.1 pc = .ok (.putfield idx, 3)) (w : CkF Y.1.cls idx c j d true fin) (hfin : fin = true → Y.1.name = "<init>" ∧ ∃ q : vw_C, cl_[c]? = some q ∧ q.1 = Y.1.cls) (hT : h.2.2.1 k = c + 1)
    (hty : ∃ ty, parseFieldDescriptor d = some ty ∧ ((∃ n, ty = .object n) ∨ ∃ t, ty = .array t)) (K : V G Y R F gc gs (pc + 3) L S (sR h k j (some x))) : V G Y R F gc gs pc L (.ref x :: .ref k :: S) h := by
  obtain ⟨ty, ht, hk⟩ := hty
  refine V_put (h' := sR h k j (some x)) hd w hfin hT ⟨ty, ht, by rcases hk with ⟨n, rfl⟩ | ⟨t, rfl⟩ <;> rfl, by rcases hk with ⟨n, rfl⟩ | ⟨t, rfl⟩ <;> rfl⟩ rfl (fun i hi => ⟨rfl, up2_row _ _ _ _ hi⟩) (fun i => ?_) K
  have hb : isR c j = true := by obtain ⟨q, hq, hj, hb, hw⟩ := w; exact hb.1
  show (if isR c i = true then rv G (up2 h.2.1 k j (some x) k i) else .int (h.1 k i)) = _
  rw [up2_own]
  by_cases hi : i = j
  · subst hi; simp [hb]; rfl
  · simp [hi]
theorem V_putN {idx c j k : Nat} {d : String} {fin : Bool} (hd : decode Y.2.1 pc = .ok (.putfield idx, 3)) (w : CkF Y.1.cls idx c j d true fin) (hfin : fin = true → Y.1.name = "<init>" ∧ ∃ q : vw_C, cl_[c]? = some q ∧ q.1 = Y.1.cls) (hT : h.2.2.1 k = c + 1)
    (hty : ∃ ty, parseFieldDescriptor d = some ty ∧ ((∃ n, ty = .object n) ∨ ∃ t, ty = .array t)) (K : V G Y R F gc gs (pc + 3) L S (sR h k j none)) : V G Y R F gc gs pc L (.null :: .ref k :: S) h := by
  obtain ⟨ty, ht, hk⟩ := hty
  refine V_put (h' := sR h k j none) hd w hfin hT ⟨ty, ht, by rcases hk with ⟨n, rfl⟩ | ⟨t, rfl⟩ <;> rfl, by rcases hk with ⟨n, rfl⟩ | ⟨t, rfl⟩ <;> rfl⟩ rfl (fun i hi => ⟨rfl, up2_row _ _ _ _ hi⟩) (fun i => ?_) K
  have hb : isR c j = true := by obtain ⟨q, hq, hj, hb, hw⟩ := w; exact hb.1
  show (if isR c i = true then rv G (up2 h.2.1 k j none k i) else .int (h.1 k i)) = _
  rw [up2_own]
  by_cases hi : i = j
  · subst hi; simp [hb]; rfl
  · simp [hi]
end RH
end
section
section RA
variable {G : Gl} {Y : MI} {R : Room} {F : Fn} {gc gs pc : Nat} {L : List (Option Value)} {S : List Value} {h : Hp}
theorem in_nI {i n : Nat} (hi : i < n ∧ n < 2147483648) : ¬ (nI i < 0 ∨ n ≤ (nI i).toNatClampNeg) := nI_in hi.1 hi.2
theorem V_iald {k : Nat} {x : Int32} (i : Nat) (hd : decode Y.2.1 pc = .ok (.iaload, 1)) (hT : h.2.2.1 k = 20) (hx : x = nI i) (hi : i < h.2.2.2.1 k ∧ h.2.2.2.1 k < 2147483648)
    (K : V G Y R F gc gs (pc + 1) L (.int (h.1 k i) :: S) h) : V G Y R F gc gs pc L (.int x :: .ref k :: S) h := by
  intro p e s m args below meth c C H locs ls hS hH hl
  subst hx
  obtain ⟨k1, k2, k3⟩ := hH.2.2 k (by rw [hT]; decide)
  rw [hT] at k3
  refine W.iald (v := .int (h.1 k i)) C.1 C.2.1 k3.i (C.2.2.2.2.2.2.2.2.1.2.1.1 _ _) (fun q => by cases q) (by rw [arrV_size]; exact in_nI hi) (by rw [nI_clamp (by omega), arrV_read _ _ hi.1]) rfl rfl hd (K p e s m args below meth c C H locs ls hS hH hl)
theorem V_zald {k : Nat} {x : Int32} (i : Nat) (hd : decode Y.2.1 pc = .ok (.baload, 1)) (hT : h.2.2.1 k = 21) (hx : x = nI i) (hi : i < h.2.2.2.1 k ∧ h.2.2.2.1 k < 2147483648)
    (K : V G Y R F gc gs (pc + 1) L (.int (h.1 k i) :: S) h) : V G Y R F gc gs pc L (.int x :: .ref k :: S) h := by
  intro p e s m args below meth c C H locs ls hS hH hl
  subst hx
  obtain ⟨k1, k2, k3⟩ := hH.2.2 k (by rw [hT]; decide)
  rw [hT] at k3
  refine W.zald (v := .int (h.1 k i)) C.1 C.2.1 k3.z (C.2.2.2.2.2.2.2.2.1.2.2.1.1 _ _) (fun q => by cases q) (by rw [arrV_size]; exact in_nI hi) (by rw [nI_clamp (by omega), arrV_read _ _ hi.1]) rfl rfl hd (K p e s m args below meth c C H locs ls hS hH hl)
theorem V_aald {k c : Nat} {x : Int32} (i : Nat) (hd : decode Y.2.1 pc = .ok (.aaload, 1)) (hT : h.2.2.1 k = c + 40) (hc : c ∈ arrCs) (hx : x = nI i) (hi : i < h.2.2.2.1 k ∧ h.2.2.2.1 k < 2147483648) {y : Nat} (hy : h.2.1 k i = some y)
    (K : V G Y R F gc gs (pc + 1) L (.ref y :: S) h) : V G Y R F gc gs pc L (.int x :: .ref k :: S) h := by
  intro p e s m args below meth cd C H locs ls hS hH hl
  subst hx
  obtain ⟨k1, k2, k3⟩ := hH.2.2 k (by rw [hT]; omega)
  rw [hT] at k3
  have hlc : c < 13 := by simp [arrCs] at hc; omega
  obtain ⟨q, hq⟩ : ∃ q, cl_[c]? = some q := ⟨_, List.getElem?_eq_getElem hlc⟩
  refine W.aald (v := .ref (ad G y)) (ty := .object q.1) C.1 C.2.1 k3.r ((C.2.2.2.2.2.2.2.2.1.2.2.2.1 c hc q hq).1 _ _) rfl (fun q => by cases q) (by rw [arrV_size]; exact in_nI hi) (by rw [nI_clamp (by omega), arrV_read _ _ hi.1, hy]; rfl) rfl rfl hd (K p e s m args below meth cd C H locs ls hS hH hl)
theorem V_iast {k : Nat} {x z : Int32} (i : Nat) (hd : decode Y.2.1 pc = .ok (.iastore, 1)) (hT : h.2.2.1 k = 20) (hx : x = nI i) (hi : i < h.2.2.2.1 k ∧ h.2.2.2.1 k < 2147483648)
    (K : V G Y R F gc gs (pc + 1) L S (sI h k i z)) : V G Y R F gc gs pc L (.int z :: .int x :: .ref k :: S) h := by
  intro p e s m args below meth c C H locs ls hS hH hl
  subst hx
  obtain ⟨k1, k2, k3⟩ := hH.2.2 k (by rw [hT]; decide)
  rw [hT] at k3
  refine W.iast C.1 C.2.1 k3.i (C.2.2.2.2.2.2.2.2.1.2.1.1 _ _) (fun q => by cases q) (by rw [arrV_size]; exact in_nI hi) rfl rfl hd (fun H1 e1 e2 e3 => ?_)
  refine K p e s m args below meth c C H1 _ ls (hS.put e2 e3 (by rw [ad_ge G k1]; exact Nat.le_add_right _ _)) (hH.put k1 e2 e3 rfl (fun j hj => ⟨up2_row _ _ _ _ hj, rfl⟩) ?_) hl
  rw [hT]
  refine Or.inr (Or.inl ⟨rfl, ?_⟩)
  rw [e1, arrV_store, nI_clamp (by omega)]
  congr 2
  funext j
  show updV _ i (.int z) j = .int (up2 h.1 k i z k j)
  rw [up2_own]
  by_cases hj : j = i <;> simp [updV, hj]
theorem V_zast {k : Nat} {x z : Int32} (i : Nat) (hd : decode Y.2.1 pc = .ok (.bastore, 1)) (hT : h.2.2.1 k = 21) (hx : x = nI i) (hi : i < h.2.2.2.1 k ∧ h.2.2.2.1 k < 2147483648) (hz : z = 0 ∨ z = 1)
    (K : V G Y R F gc gs (pc + 1) L S (sI h k i z)) : V G Y R F gc gs pc L (.int z :: .int x :: .ref k :: S) h := by
  intro p e s m args below meth c C H locs ls hS hH hl
  subst hx
  obtain ⟨k1, k2, k3⟩ := hH.2.2 k (by rw [hT]; decide)
  rw [hT] at k3
  refine W.zast C.1 C.2.1 k3.z (C.2.2.2.2.2.2.2.2.1.2.2.1.1 _ _) (fun q => by cases q) (by rw [arrV_size]; exact in_nI hi) rfl rfl hd (fun H1 e1 e2 e3 => ?_)
  refine K p e s m args below meth c C H1 _ ls (hS.put e2 e3 (by rw [ad_ge G k1]; exact Nat.le_add_right _ _)) (hH.put k1 e2 e3 rfl (fun j hj => ⟨up2_row _ _ _ _ hj, rfl⟩) ?_) hl
  rw [hT]
  refine Or.inr (Or.inr (Or.inl ⟨rfl, ?_⟩))
  have hn : narrow .boolean (.int z) = .int z := by rcases hz with rfl | rfl <;> rfl
  rw [e1, hn, arrV_store, nI_clamp (by omega)]
  congr 2
  funext j
  show updV _ i (.int z) j = .int (up2 h.1 k i z k j)
  rw [up2_own]
  by_cases hj : j = i <;> simp [updV, hj]
theorem V_aast {k c y : Nat} {x : Int32} (i : Nat) (hd : decode Y.2.1 pc = .ok (.aastore, 1)) (hT : h.2.2.1 k = c + 40) (hc : c ∈ arrCs) (hx : x = nI i) (hi : i < h.2.2.2.1 k ∧ h.2.2.2.1 k < 2147483648) (hy : h.2.2.1 y = c + 1)
    (K : V G Y R F gc gs (pc + 1) L S (sR h k i (some y))) : V G Y R F gc gs pc L (.ref y :: .int x :: .ref k :: S) h := by
  intro p e s m args below meth cd C H locs ls hS hH hl
  subst hx
  obtain ⟨k1, k2, k3⟩ := hH.2.2 k (by rw [hT]; omega)
  rw [hT] at k3
  obtain ⟨y1, y2, y3⟩ := hH.2.2 y (by rw [hy]; omega)
  rw [hy] at y3
  have hlc : c < 13 := by simp [arrCs] at hc; omega
  obtain ⟨q, hq, cell, g1, g2, g3, -⟩ := y3.o hlc
  have hcls := (C.2.2.2.2.2.2.2.2.1.1 c q hq).2
  obtain ⟨kA, comp, a1, a2, a3, -⟩ := (C.2.2.2.2.2.2.2.2.1.2.2.2.1 c hc q hq).2.1
  have hcomp : comp = G.2.2.1 c := Option.some.inj (a3.symm.trans hcls.1)
  subst hcomp
  obtain ⟨kC, hkC, -⟩ := id hcls.2
  refine W.aast C.1 C.2.1 k3.r (fun q h => by cases h) (fun h => by cases h) a1 a2 rfl hkC ⟨nI_pos (by omega), by rw [arrV_size, nI_clamp (by omega)]; exact hi.1⟩ g1 (fun q h => by rw [g3] at h; cases h) (by rw [g2]; exact hkC) (by rw [g2]; exact va_assign hcls) rfl rfl hd (fun H1 e1 e2 e3 => ?_)
  refine K p e s m args below meth cd C H1 _ ls (hS.put e2 e3 (by rw [ad_ge G k1]; exact Nat.le_add_right _ _)) (hH.put k1 e2 e3 rfl (fun j hj => ⟨rfl, up2_row _ _ _ _ hj⟩) ?_) hl
  rw [hT]
  refine Or.inr (Or.inr (Or.inr ⟨c, rfl, ?_⟩))
  rw [e1, arrV_store, nI_clamp (by omega)]
  congr 2
  funext j
  show updV _ i (.ref (ad G y)) j = rv G (up2 h.2.1 k i (some y) k j)
  rw [up2_own]
  by_cases hj : j = i <;> simp [updV, hj, rv]
theorem V_alen {k : Nat} (hd : decode Y.2.1 pc = .ok (.arraylength, 1)) (hT : h.2.2.1 k = 20) (K : V G Y R F gc gs (pc + 1) L (.int (nI (h.2.2.2.1 k)) :: S) h) : V G Y R F gc gs pc L (.ref k :: S) h := by
  intro p e s m args below meth c C H locs ls hS hH hl
  obtain ⟨k1, k2, k3⟩ := hH.2.2 k (by rw [hT]; decide)
  rw [hT] at k3
  exact W.alen (n := nI (h.2.2.2.1 k)) C.1 C.2.1 k3.i (C.2.2.2.2.2.2.2.2.1.2.1.1 _ _) (by rw [arrV_size] <;> rfl) rfl rfl hd (K p e s m args below meth c C H locs ls hS hH hl)
theorem sf_now {s : State} {m : MethodId} {args : Array Value} {meth : Method} {c : Code} {p : Program} {H : Heap} {locs : List Loc} (C : Cx G Y p s m args meth c) (hS : va_S (AA G) s.heap H locs) : SF G s H :=
  C.2.2.2.2.2.2.2.2.2.1.kept C.2.2.2.2.2.2.2.2.2.2 hS.2.1
theorem V_slen (hd : decode Y.2.1 pc = .ok (.arraylength, 1)) (K : V G Y R F gc gs (pc + 1) L (.int (nI G.2.2.2.2.2.1) :: S) h) : V G Y R F gc gs pc L (.ref 2 :: S) h := by
  intro p e s m args below meth c C H locs ls hS hH hl
  obtain ⟨scr, h1, h2, h3, h4, h5⟩ := (sf_now C hS).2.2.2.2.1
  exact W.alen (n := nI G.2.2.2.2.2.1) C.1 C.2.1 h1 h2 (by rw [h4] <;> rfl) rfl rfl hd (K p e s m args below meth c C H locs ls hS hH hl)
theorem V_sld {x : Int32} (i : Nat) (hd : decode Y.2.1 pc = .ok (.iaload, 1)) (hx : x = nI i) (hi : i < G.2.2.2.2.2.1 ∧ G.2.2.2.2.2.1 < 2147483648) (K : V G Y R F gc gs (pc + 1) L (.int (G.2.2.2.2.2.2 i) :: S) h) : V G Y R F gc gs pc L (.int x :: .ref 2 :: S) h := by
  intro p e s m args below meth c C H locs ls hS hH hl
  subst hx
  obtain ⟨scr, h1, h2, h3, h4, h5⟩ := (sf_now C hS).2.2.2.2.1
  exact W.iald (v := .int (G.2.2.2.2.2.2 i)) C.1 C.2.1 h1 h2 h3 (by rw [h4]; exact in_nI hi) (by rw [nI_clamp (by omega)]; exact h5 i hi.1) rfl rfl hd (K p e s m args below meth c C H locs ls hS hH hl)
theorem V_kald {x : Int32} (i : Nat) (hd : decode Y.2.1 pc = .ok (.iaload, 1)) (hx : x = nI i) (hi : i < 6) (K : V G Y R F gc gs (pc + 1) L (.int (kaT.getD i 0) :: S) h) : V G Y R F gc gs pc L (.int x :: .ref 0 :: S) h := by
  intro p e s m args below meth c C H locs ls hS hH hl
  subst hx
  obtain ⟨cell, h1, h2, h3, h4, h5, h6, h7⟩ := (sf_now C hS).2.2.1
  exact W.iald (v := .int (kaT.getD i 0)) C.1 C.2.1 h1 h2 h3 (fun hh => in_nI (i := i) (n := 6) ⟨hi, by decide⟩ (hh.imp id (Nat.le_trans h4))) (by rw [nI_clamp (by omega)]; exact h6 i hi) rfl rfl hd (K p e s m args below meth c C H locs ls hS hH hl)
theorem V_bald {x : Int32} (i : Nat) (hd : decode Y.2.1 pc = .ok (.iaload, 1)) (hx : x = nI i) (hi : i < 24) (K : V G Y R F gc gs (pc + 1) L (.int (boT.getD i 0) :: S) h) : V G Y R F gc gs pc L (.int x :: .ref 1 :: S) h := by
  intro p e s m args below meth c C H locs ls hS hH hl
  subst hx
  obtain ⟨cell, h1, h2, h3, h4, h5, h6, h7⟩ := (sf_now C hS).2.2.2.1
  exact W.iald (v := .int (boT.getD i 0)) C.1 C.2.1 h1 h2 h3 (fun hh => in_nI (i := i) (n := 24) ⟨hi, by decide⟩ (hh.imp id (Nat.le_trans h4))) (by rw [nI_clamp (by omega)]; exact h6 i hi) rfl rfl hd (K p e s m args below meth c C H locs ls hS hH hl)
theorem V_getsK {idx : Nat} (hd : decode Y.2.1 pc = .ok (.getstatic idx, 3)) (w : Cond.fieldLink Y.1.cls idx "RiverSteamers" "KIND_ABOVE" "[I" ∈ TBg) (K : V G Y R F gc gs (pc + 3) L (.ref 0 :: S) h) : V G Y R F gc gs pc L S h := by
  intro p e s m args below meth c C H locs ls hS hH hl
  exact va_gets C.1 C.2.1 C.2.2.2.2.2.2.2.2.2.1.1 hS C.2.2.2.2.2.2.1 (C.2.2.2.2.2.2.2.1 _ w) (fun _ h => h) hd (K p e s m args below meth c C H locs ls hS hH hl)
theorem V_getsKN {idx : Nat} {host : String} (hd : decode Y.2.1 pc = .ok (.getstatic idx, 3)) (w : Cond.fieldLinkNest Y.1.cls idx "RiverSteamers" "KIND_ABOVE" "[I" host ∈ TBn) (K : V G Y R F gc gs (pc + 3) L (.ref 0 :: S) h) : V G Y R F gc gs pc L S h := by
  intro p e s m args below meth c C H locs ls hS hH hl
  exact va_getsN C.1 C.2.1 C.2.2.2.2.2.2.2.2.2.1.1 hS C.2.2.2.2.2.2.1 (va_Nw.use rfl (C.2.2.2.2.2.2.2.2.1.2.2.2.2 _ w)) (fun _ h => h) hd (K p e s m args below meth c C H locs ls hS hH hl)
theorem V_getsB {idx : Nat} (hd : decode Y.2.1 pc = .ok (.getstatic idx, 3)) (w : Cond.fieldLink Y.1.cls idx "RiverSteamers$Acts" "BODIES" "[I" ∈ TBg) (K : V G Y R F gc gs (pc + 3) L (.ref 1 :: S) h) : V G Y R F gc gs pc L S h := by
  intro p e s m args below meth c C H locs ls hS hH hl
  exact va_gets C.1 C.2.1 C.2.2.2.2.2.2.2.2.2.1.2.1 hS C.2.2.2.2.2.2.1 (C.2.2.2.2.2.2.2.1 _ w) (fun _ h => h) hd (K p e s m args below meth c C H locs ls hS hH hl)
theorem new_S {s : State} {H H1 : Heap} {locs : List Loc} (hS : va_S (AA G) s.heap H locs) (z : H1.size = H.size + 1) (o : ∀ q, q < H.size → H1[q]? = H[q]?) : va_S (AA G) s.heap H1 locs :=
  ⟨Nat.le_trans hS.1 (by omega), fun x h1 h2 => (o x (Nat.lt_of_lt_of_le h1 hS.1)).trans (hS.2.1 x h1 h2), hS.2.2⟩
theorem V_newI {x : Int32} (n : Nat) (hd : decode Y.2.1 pc = .ok (.newarray .int, 2)) (hx : x = nI n) (hn : n < 1000000) (hg : gc + 1 ≤ R.cells ∧ gs + n ≤ R.slots) (w : Cond.arrayClass .int ∈ TBg)
    (K : V G Y R F (gc + 1) (gs + n) (pc + 2) L (.ref h.2.2.2.2 :: S) (nw h 20 n)) : V G Y R F gc gs pc L (.int x :: S) h := by
  intro p e s m args below meth c C H locs ls hS hH hl
  subst hx
  have hcl := nI_clamp (n := n) (by omega)
  refine va_newaK (atype := .int) C.1 C.2.1 (C.2.2.2.2.2.2.2.1 _ w) rfl hd rfl (nI_pos (by omega)) hcl (by show n * 4 ≤ _; omega) hg.1 hg.2 rfl (fun H1 cA e1 z1 o1 a1 f1 => ?_)
  have hcA : cA = G.2.2.2.2.1 0 := Option.some.inj (f1.symm.trans C.2.2.2.2.2.2.2.2.1.2.1.2)
  subst hcA
  have k := K p e s m args below meth c C H1 locs ls (new_S hS z1 o1) (hH.new z1 o1 rfl (fun j hj => by simp [nw, hj]) (by
    refine Or.inr (Or.inl ⟨by simp [nw], ?_⟩)
    rw [e1]
    simp [nw]
    rfl)) hl
  rw [hH.nx]
  exact k
theorem V_newZ {x : Int32} (n : Nat) (hd : decode Y.2.1 pc = .ok (.newarray .boolean, 2)) (hx : x = nI n) (hn : n < 1000000) (hg : gc + 1 ≤ R.cells ∧ gs + n ≤ R.slots) (w : Cond.arrayClass .boolean ∈ TBg)
    (K : V G Y R F (gc + 1) (gs + n) (pc + 2) L (.ref h.2.2.2.2 :: S) (nw h 21 n)) : V G Y R F gc gs pc L (.int x :: S) h := by
  intro p e s m args below meth c C H locs ls hS hH hl
  subst hx
  have hcl := nI_clamp (n := n) (by omega)
  refine va_newaK (atype := .boolean) C.1 C.2.1 (C.2.2.2.2.2.2.2.1 _ w) rfl hd rfl (nI_pos (by omega)) hcl (by show n * 1 ≤ _; omega) hg.1 hg.2 rfl (fun H1 cA e1 z1 o1 a1 f1 => ?_)
  have hcA : cA = G.2.2.2.2.1 1 := Option.some.inj (f1.symm.trans C.2.2.2.2.2.2.2.2.1.2.2.1.2)
  subst hcA
  have k := K p e s m args below meth c C H1 locs ls (new_S hS z1 o1) (hH.new z1 o1 rfl (fun j hj => by simp [nw, hj]) (by
    refine Or.inr (Or.inr (Or.inl ⟨by simp [nw], ?_⟩))
    rw [e1]
    simp [nw]
    rfl)) hl
  rw [hH.nx]
  exact k
theorem V_newQ {x : Int32} {idx c : Nat} {q : vw_C} (n : Nat) (hd : decode Y.2.1 pc = .ok (.anewarray idx, 3)) (hc : c ∈ arrCs) (hq : cl_[c]? = some q) (w : Cond.classLink Y.1.cls idx q.1 ∈ TBg) (hx : x = nI n) (hn : n < 1000000) (hg : gc + 1 ≤ R.cells ∧ gs + n ≤ R.slots)
    (K : V G Y R F (gc + 1) (gs + n) (pc + 3) L (.ref h.2.2.2.2 :: S) (nw h (c + 40) n)) : V G Y R F gc gs pc L (.int x :: S) h := by
  intro p e s m args below meth cd C H locs ls hS hH hl
  subst hx
  have hcl := nI_clamp (n := n) (by omega)
  obtain ⟨a1, a2, a3⟩ := C.2.2.2.2.2.2.2.2.1.2.2.2.1 c hc q hq
  refine W.anew C.1 C.2.1 C.2.2.2.2.2.2.1 (C.2.2.2.2.2.2.2.1 _ w) (va_AO.use a3) rfl hd rfl (nI_pos (by omega)) (by rw [hcl]; omega) hg.1 (by rw [hcl]; exact hg.2) (fun cA kA comp f1 f2 f3 f4 => ?_)
  rw [hcl]
  obtain ⟨kA', comp', b1, b2, b3, b4⟩ := a2
  have hcA : cA = G.2.2.2.2.1 (c + 2) := Option.some.inj (f1.symm.trans b4)
  subst hcA
  generalize hH1 : H.push ({ cls := G.2.2.2.2.1 (c + 2), slots := Array.replicate n .null, vm := .none } : Cell) = H1
  have z1 : H1.size = H.size + 1 := by rw [← hH1, Array.size_push]
  have e1 : H1[H.size]? = some (arrV (G.2.2.2.2.1 (c + 2)) n (fun _ => .null)) := by rw [← hH1, Array.getElem?_push_size, ← arrV_new]
  have o1 : ∀ q : Nat, q < H.size → H1[q]? = H[q]? := fun q hq => by rw [← hH1, Array.getElem?_push, if_neg (Nat.ne_of_lt hq)]
  have k := K p e s m args below meth cd C H1 locs ls (new_S hS z1 o1) (hH.new z1 o1 rfl (fun j hj => by simp [nw, hj]) (by
    refine Or.inr (Or.inr (Or.inr ⟨c, by simp [nw], ?_⟩))
    rw [e1]
    simp [nw, rv])) hl
  rw [hH.nx]
  exact k
theorem V_newC {idx c : Nat} {q : vw_C} (hd : decode Y.2.1 pc = .ok (.new idx, 3)) (hq : cl_[c]? = some q) (w1 : Cond.classLink Y.1.cls idx q.1 ∈ TBg) (w2 : Cond.instantiable q.1 q.2.2 ∈ TBg) (w3 : Cond.initialized q.1 ∈ TBg)
    (hz : ∀ ty : Nat → FieldType, (∀ k, k < q.2.2 → parseFieldDescriptor (q.2.1 k).2.2.1 = some (ty k)) → ∀ j, j < q.2.2 → defaultValue (ty j) = if isR c j = true then .null else .int 0) (hg : gc + 1 ≤ R.cells ∧ gs + q.2.2 ≤ R.slots)
    (K : V G Y R F (gc + 1) (gs + q.2.2) (pc + 3) L (.ref h.2.2.2.2 :: S) (nw h (c + 1) 0)) : V G Y R F gc gs pc L S h := by
  intro p e s m args below meth cd C H locs ls hS hH hl
  have hts := C.2.2.2.2.2.2.2.1
  have hKn := C.2.2.2.2.2.2.2.2.1.1 c q hq
  obtain ⟨ty, hty⟩ := cl_ty c q hq
  refine W.newcK C.1 C.2.1 C.2.2.2.2.2.2.1 (hts _ w1) (hts _ w2) (hts _ w3) rfl hd hg.1 hg.2 hKn.2.1 rfl (fun H1 kC hkC e1 z1 o1 => ?_)
  have k := K p e s m args below meth cd C H1 locs ls (new_S hS z1 o1) (hH.new z1 o1 rfl (fun j hj => by simp [nw, hj]) (by
    refine Or.inl ⟨c, q, by simp [nw], hq, (u_born ty hts (cl_in c q hq) hKn hkC e1 hty).to (fun j hj => ?_)⟩
    rw [hz ty hty j hj]
    simp [nw, rv])) hl
  rw [hH.nx]
  exact k
end RA
end
section
/-! ===== returns and calls ===== -/
section RC
variable {G : Gl} {Y : MI} {R : Room} {F : Fn} {gc gs pc : Nat} {L : List (Option Value)} {S : List Value} {h : Hp} {Q : Option Value → Hp → Prop}
theorem ret_q {s t : State} {args : Array Value} {H : Heap} {locs : List Loc} {v : Option Value} {w : Option Value} (hS : va_S (AA G) s.heap H locs) (hH : HR G h H) (hq : Q v h) (hw : w = v.map (cv G)) (ht : t.heap = H) : Qc G Q args s (.returned w) t :=
  ⟨⟨v, h, by rw [hw], hq, by rw [ht]; exact hH⟩, hS.F ht⟩
theorem V_iret {x : Int32} (hd : decode Y.2.1 pc = .ok (.ireturn, 1)) (hr : Y.2.2.2 = some .int) (hg : gc ≤ R.cells ∧ gs ≤ R.slots) (hq : Q (some (.int x)) h) : V G Y R (FM G R Q) gc gs pc L [.int x] h := by
  intro p e s m args below meth c C H locs ls hS hH hl
  exact W.widen hg.1 hg.2 (W.iret C.1 C.2.1 (C.2.2.2.1.trans hr) (fun t ht _ => ret_q (v := some (.int x)) hS hH hq rfl ht) hS.2.2 hd C.2.2.2.2.1)
theorem V_zret {x : Int32} (hd : decode Y.2.1 pc = .ok (.ireturn, 1)) (hr : Y.2.2.2 = some .boolean) (hx : x = 0 ∨ x = 1) (hg : gc ≤ R.cells ∧ gs ≤ R.slots) (hq : Q (some (.int x)) h) : V G Y R (FM G R Q) gc gs pc L [.int x] h := by
  intro p e s m args below meth c C H locs ls hS hH hl
  exact W.widen hg.1 hg.2 (W.zret C.1 C.2.1 (C.2.2.2.1.trans hr) (by rcases hx with rfl | rfl <;> rfl) (fun t ht _ => ret_q (v := some (.int x)) hS hH hq rfl ht) hS.2.2 hd C.2.2.2.2.1)
theorem V_vret (hd : decode Y.2.1 pc = .ok (.return_, 1)) (hr : Y.2.2.2 = none) (hg : gc ≤ R.cells ∧ gs ≤ R.slots) (hq : Q none h) : V G Y R (FM G R Q) gc gs pc L [] h := by
  intro p e s m args below meth c C H locs ls hS hH hl
  exact W.widen hg.1 hg.2 (W.vret C.1 C.2.1 (C.2.2.2.1.trans hr) (fun t ht _ => ret_q (v := none) hS hH hq rfl ht) hS.2.2 hd C.2.2.2.2.1)
theorem V_aret {r : Option Nat} {rt : FieldType} (hd : decode Y.2.1 pc = .ok (.areturn, 1)) (hr : Y.2.2.2 = some rt) (hrt : (∃ n, rt = .object n) ∨ ∃ t, rt = .array t) (hg : gc ≤ R.cells ∧ gs ≤ R.slots) (hq : Q (some (rfv r)) h) : V G Y R (FM G R Q) gc gs pc L [rfv r] h := by
  intro p e s m args below meth c C H locs ls hS hH hl
  exact W.widen hg.1 hg.2 (W.aret C.1 C.2.1 (C.2.2.2.1.trans hr) hrt (by cases r; exact Or.inl rfl; exact Or.inr ⟨_, rfl⟩) (fun t ht _ => ret_q (v := some (rfv r)) hS hH hq rfl ht) hS.2.2 hd C.2.2.2.2.1)
/-- behind a call -/
theorem V_run {Y' : MI} {R' : Room} {as : List Value} {St : List Value}
    (M : CM G Y' R' as h (fun v h' => V G Y R F (gc + R'.cells) (gs + R'.slots) (pc + 3) L (v.toList ++ S) h'))
    (hr : ∀ (p : Program) (e : Env) (s : State) (m : MethodId) (args : Array Value) (below : List Frame) (meth : Method) (c : Code), Cx G Y p s m args meth c → ∀ (H : Heap) (locs : List Loc) (ls : Array Slot), va_S (AA G) s.heap H locs → HR G h H → lv_has ls Y.2.2.1 (pr G L 0) →
      FrameBlind (Pc G as h) → (∀ U : State, U.heap = H → s.WarmedH U.vm → Pc G as h (as.map (cv G)).toArray U) →
      va_Run p G.1 e R s m args below meth c H locs gc gs R'.cells R'.slots (F0 m pc ls (St.map (cv G))) (S.map (cv G)) (Qc G (fun v h' => V G Y R F (gc + R'.cells) (gs + R'.slots) (pc + 3) L (v.toList ++ S) h') (as.map (cv G)).toArray) (AA G)) :
    V G Y R F gc gs pc L St h := by
  intro p e s m args below meth c C H locs ls hS hH hl T hT X
  have hPc : ∀ U : State, U.heap = H → s.WarmedH U.vm → Pc G as h (as.map (cv G)).toArray U := fun U hU hW =>
    ⟨rfl, by rw [hU]; exact hH, C.2.2.2.2.2.2.2.2.1.warm hW, by rw [hU]; exact (sf_now C hS).moved hW.alike, by rw [hU]; exact Nat.le_trans C.2.2.2.2.2.2.2.2.2.2 hS.1⟩
  obtain ⟨v, st₀, t, T', LL, h0, X', hL, e1, e2, ⟨⟨w, h', hw, hK, hH'⟩, hz, hk⟩, st⟩ := hr p e s m args below meth c C H locs ls hS hH hl Pc.blind hPc T hT X
  rw [h0] at hz hk
  obtain rfl : v = w.map (cv G) := by cases hw; rfl
  have hS' : va_S (AA G) s.heap T'.heap (locs ++ LL) := ⟨Nat.le_trans hS.1 (by rw [e1]; exact hz), fun q h1 h2 => by rw [e1, hk q (Nat.lt_of_lt_of_le h1 hS.1) h2]; exact hS.2.1 q h1 h2, fun q hq => by
      rcases List.mem_append.mp hq with h | h
      · exact hS.2.2 q h
      · exact hL q h⟩
  obtain ⟨t2, a1, b1⟩ := hK p e s m args below meth c C T'.heap (locs ++ LL) ls hS' (by rw [e1]; exact hH') hl T' rfl X'
  refine ⟨t2, st t2 ?_, b1⟩
  have e3 : ((w.toList ++ S).map (cv G)) = (w.map (cv G)).toList ++ S.map (cv G) := by cases w <;> rfl
  rw [e3] at a1
  exact a1
/-- a method's words at a call -/
def CkM (own : String) (idx : Nat) (Y' : MI) (n : Nat) : Prop :=
  Cond.code Y'.1 Y'.2.1 Y'.2.2.1 Y'.2.2.2 ∈ TBg ∧ Cond.initialized Y'.1.cls ∈ TBg ∧ (Y'.1.cls ≠ "java/lang/invoke/MethodHandle" ∧ Y'.1.cls ≠ "java/lang/invoke/VarHandle" ∧ (parseMethodDescriptor Y'.1.desc).map (fun d => d.parameters.length) = some n) ∧
  (Cond.methodLink own idx Y'.1 ∈ TBg ∨ ∃ host, Cond.methodLinkNest own idx Y'.1 host ∈ TBn)
theorem callB_own {Y' : MI} {R' : Room} {s : State} {args : Array Value} {own : String} {idx n : Nat} (hts : ∀ w ∈ TBg, w.before args s = true) (w : CkM own idx Y' n) (hl : Cond.methodLink own idx Y'.1 ∈ TBg) (hR : R'.frames + 1 ≤ R.frames ∧ 8 + (Y'.2.2.1 + 11) + R'.locals ≤ R.locals) :
    CallB R s args own idx Y'.1 Y'.2.1 Y'.2.2.1 Y'.2.2.2 (wsy Y') R' R'.cells R'.slots n :=
  callB_of (Ts := TBg) (ws' := TBg) n hts (tb_good w.1) rfl rfl rfl (hts _ w.2.1) (hts _ hl) w.2.2.1 hR
theorem callN_own {Y' : MI} {R' : Room} {s : State} {args : Array Value} {own host : String} {idx n : Nat} (hts : ∀ w ∈ TBg, w.before args s = true) (hK : KK G s) (w : CkM own idx Y' n) (hl : Cond.methodLinkNest own idx Y'.1 host ∈ TBn) (hR : R'.frames + 1 ≤ R.frames ∧ 8 + (Y'.2.2.1 + 11) + R'.locals ≤ R.locals) :
    va_CN R s args own idx Y'.1 host Y'.2.1 Y'.2.2.1 Y'.2.2.2 (wsy Y') R' R'.cells R'.slots n :=
  va_cnB (Ts := TBg) (ws' := TBg) n hts (tb_good w.1) rfl rfl rfl (hK.2.2.2.2 _ hl) (hts _ w.2.1) w.2.2.1 hR
theorem V_callv {Y' : MI} {R' : Room} {idx c k : Nat} {q : vw_C} {As St : List Value} (hd : decode Y.2.1 pc = .ok (.invokevirtual idx, 3)) (w : CkM Y.1.cls idx Y' As.length) (w2 : Cond.instanceMethod Y'.1 ∈ TBg ∧ Cond.selects Y'.1.cls Y'.1 Y'.1 ∈ TBg)
    (hq : cl_[c]? = some q ∧ q.1 = Y'.1.cls) (hT : h.2.2.1 k = c + 1) (hst : St = As.reverse ++ .ref k :: S) (hW : (S.map fun v => v.category).sum ≤ 8) (hR : R'.frames + 1 ≤ R.frames ∧ 8 + (Y'.2.2.1 + 11) + R'.locals ≤ R.locals) (hg : gc + R'.cells ≤ R.cells ∧ gs + R'.slots ≤ R.slots)
    (M : CM G Y' R' (.ref k :: As) h (fun v h' => V G Y R F (gc + R'.cells) (gs + R'.slots) (pc + 3) L (v.toList ++ S) h')) : V G Y R F gc gs pc L St h := by
  refine V_run M (fun p e s m args below meth cd C H locs ls hS hH hl hbl hPc => ?_)
  obtain ⟨k1, k2, k3⟩ := hH.2.2 k (by rw [hT]; omega)
  rw [hT] at k3
  obtain ⟨q', hq', cell, g1, g2, g3, -⟩ := k3.o (cl_len hq.1)
  cases hq.1.symm.trans hq'
  have hfc := (C.2.2.2.2.2.2.2.2.1.1 c q hq.1).2.1
  have hts := C.2.2.2.2.2.2.2.1
  have hstk : St.map (cv G) = (As.map (cv G)).reverse ++ .ref (ad G k) :: S.map (cv G) := by rw [hst]; simp [cv]
  have hWW : 2 * (F0 m pc ls (St.map (cv G))).monitorRoom + ((S.map (cv G)).map fun v => v.category).sum ≤ 8 := lv_room (by rw [List.map_map]; simpa [Function.comp_def, cv_cat] using hW)
  have hpv : PreV s H Y'.1.cls (ad G k) (Pc G (.ref k :: As) h) (As.map (cv G)) := ⟨hbl, ⟨cell, g1, by rw [g3]; rfl, by rw [g2, ← hq.2]; exact hfc⟩, hPc⟩
  rcases w.2.2.2 with hw | ⟨host, hw⟩
  · exact va_runV (Ts := TBg) (own := Y.1.cls) (nL := Y.2.2.1) ⟨C.1, C.2.1, C.2.2.1, C.2.2.2.2.2.2.1, hts⟩ M ⟨callB_own hts w hw hR, hts _ w2.1, hts _ w2.2⟩ hpv rfl (by simp) hl.1 hstk hWW hd hg
  · exact va_runVN (Ts := TBg) (own := Y.1.cls) (nL := Y.2.2.1) ⟨C.1, C.2.1, C.2.2.1, C.2.2.2.2.2.2.1, hts⟩ M ⟨callN_own hts C.2.2.2.2.2.2.2.2.1 w hw hR, hts _ w2.1, hts _ w2.2⟩ hpv rfl (by simp) hl.1 hstk hWW hd hg
theorem V_calls {Y' : MI} {R' : Room} {idx : Nat} {As St : List Value} (hd : decode Y.2.1 pc = .ok (.invokestatic idx, 3)) (w : CkM Y.1.cls idx Y' As.length) (w2 : Cond.static Y'.1 ∈ TBg)
    (hst : St = As.reverse ++ S) (hW : (S.map fun v => v.category).sum ≤ 8) (hR : R'.frames + 1 ≤ R.frames ∧ 8 + (Y'.2.2.1 + 11) + R'.locals ≤ R.locals) (hg : gc + R'.cells ≤ R.cells ∧ gs + R'.slots ≤ R.slots)
    (M : CM G Y' R' As h (fun v h' => V G Y R F (gc + R'.cells) (gs + R'.slots) (pc + 3) L (v.toList ++ S) h')) : V G Y R F gc gs pc L St h := by
  refine V_run M (fun p e s m args below meth cd C H locs ls hS hH hl hbl hPc => ?_)
  have hts := C.2.2.2.2.2.2.2.1
  have hstk : St.map (cv G) = (As.map (cv G)).reverse ++ S.map (cv G) := by rw [hst]; simp
  have hWW : 2 * (F0 m pc ls (St.map (cv G))).monitorRoom + ((S.map (cv G)).map fun v => v.category).sum ≤ 8 := lv_room (by rw [List.map_map]; simpa [Function.comp_def, cv_cat] using hW)
  rcases w.2.2.2 with hw | ⟨host, hw⟩
  · exact va_runS (Ts := TBg) (own := Y.1.cls) (nL := Y.2.2.1) ⟨C.1, C.2.1, C.2.2.1, C.2.2.2.2.2.2.1, hts⟩ M ⟨callB_own hts w hw hR, hts _ w2⟩ ⟨hbl, hPc⟩ rfl (by simp) hl.1 hstk hWW hd hg
  · exact va_runSN (Ts := TBg) (own := Y.1.cls) (nL := Y.2.2.1) ⟨C.1, C.2.1, C.2.2.1, C.2.2.2.2.2.2.1, hts⟩ M ⟨callN_own hts C.2.2.2.2.2.2.2.2.1 w hw hR, hts _ w2, trivial⟩ ⟨hbl, hPc⟩ rfl (by simp) hl.1 hstk hWW hd hg
theorem V_calli {Y' : MI} {R' : Room} {idx k : Nat} {As St : List Value} (hd : decode Y.2.1 pc = .ok (.invokespecial idx, 3)) (w : CkM Y.1.cls idx Y' As.length) (w2 : Cond.instanceMethod Y'.1 ∈ TBg) (hn : Y'.1.name = "<init>" ∧ Y'.2.2.2 = none)
    (hst : St = As.reverse ++ .ref k :: S) (hW : (S.map fun v => v.category).sum ≤ 8) (hR : R'.frames + 1 ≤ R.frames ∧ 8 + (Y'.2.2.1 + 11) + R'.locals ≤ R.locals) (hg : gc + R'.cells ≤ R.cells ∧ gs + R'.slots ≤ R.slots)
    (M : CM G Y' R' (.ref k :: As) h (fun v h' => V G Y R F (gc + R'.cells) (gs + R'.slots) (pc + 3) L (v.toList ++ S) h')) : V G Y R F gc gs pc L St h := by
  refine V_run M (fun p e s m args below meth cd C H locs ls hS hH hl hbl hPc => ?_)
  have hts := C.2.2.2.2.2.2.2.1
  have hstk : St.map (cv G) = (As.map (cv G)).reverse ++ .ref (ad G k) :: S.map (cv G) := by rw [hst]; simp [cv]
  have hWW : 2 * (F0 m pc ls (St.map (cv G))).monitorRoom + ((S.map (cv G)).map fun v => v.category).sum ≤ 8 := lv_room (by rw [List.map_map]; simpa [Function.comp_def, cv_cat] using hW)
  rcases w.2.2.2 with hw | ⟨host, hw⟩
  · have hb := callB_own hts w hw hR
    rw [hn.2] at hb
    exact va_runI (Ts := TBg) (own := Y.1.cls) (nL := Y.2.2.1) ⟨C.1, C.2.1, C.2.2.1, C.2.2.2.2.2.2.1, hts⟩ M ⟨hb, hn.1, hts _ w2⟩ ⟨hbl, hPc⟩ rfl (by simp) hl.1 hstk hWW hd hg
  · have hb := callN_own hts C.2.2.2.2.2.2.2.2.1 w hw hR
    rw [hn.2] at hb
    exact va_runIN (Ts := TBg) (own := Y.1.cls) (nL := Y.2.2.1) ⟨C.1, C.2.1, C.2.2.1, C.2.2.2.2.2.2.1, hts⟩ M ⟨hb, hn.1, hts _ w2⟩ ⟨hbl, hPc⟩ rfl (by simp) hl.1 hstk hWW hd hg
theorem V_obj {idx k : Nat} (hd : decode Y.2.1 pc = .ok (.invokespecial idx, 3)) (w : Cond.methodLink Y.1.cls idx Lib.objectInit ∈ TBg ∧ Cond.instanceMethod Lib.objectInit ∈ TBg ∧ Cond.code Lib.objectInit ⟨#[0xb1]⟩ 1 none ∈ TBg)
    (hW : (S.map fun v => v.category).sum + 12 ≤ R.locals) (hf : 1 ≤ R.frames) (K : V G Y R F gc gs (pc + 3) L S h) : V G Y R F gc gs pc L (.ref k :: S) h := by
  intro p e s m args below meth c C H locs ls hS hH hl
  have hts := C.2.2.2.2.2.2.2.1
  have hWW : 2 * (F0 m pc ls ((.ref k :: S : List Value).map (cv G))).monitorRoom + ((S.map (cv G)).map fun v => v.category).sum + 12 ≤ R.locals := by
    have : ((S.map (cv G)).map fun v => v.category).sum = (S.map fun v => v.category).sum := by rw [List.map_map]; simp [Function.comp_def, cv_cat]
    rw [this]
    show 2 * 0 + _ + 12 ≤ _
    omega
  exact W.objInit C.1 C.2.1 C.2.2.2.2.2.2.1 (hts _ w.1) (hts _ w.2.1) (hts _ w.2.2) rfl (hl.1.trans C.2.2.1.symm) rfl hd hf hWW (K p e s m args below meth c C H locs ls hS hH hl)
end RC
end
section
def yJ_fill : MethodName := ⟨"java/util/Arrays", "fill", "([II)V"⟩
abbrev cJ_fill : ByteArray := prog_18_method_103_code
abbrev mJ_fill : MI := (yJ_fill, cJ_fill, 4, none)
def yJ_abs : MethodName := ⟨"java/lang/Math", "abs", "(I)I"⟩
abbrev cJ_abs : ByteArray := prog_16_method_59_code
abbrev mJ_abs : MI := (yJ_abs, cJ_abs, 1, (some .int))
def yJ_min : MethodName := ⟨"java/lang/Math", "min", "(II)I"⟩
abbrev cJ_min : ByteArray := prog_16_method_69_code
abbrev mJ_min : MI := (yJ_min, cJ_min, 2, (some .int))
def yJ_max : MethodName := ⟨"java/lang/Math", "max", "(II)I"⟩
abbrev cJ_max : ByteArray := prog_16_method_65_code
abbrev mJ_max : MI := (yJ_max, cJ_max, 2, (some .int))
def yJ_floorMod : MethodName := ⟨"java/lang/Math", "floorMod", "(II)I"⟩
abbrev cJ_floorMod : ByteArray := prog_16_method_50_code
abbrev mJ_floorMod : MI := (yJ_floorMod, cJ_floorMod, 3, (some .int))
def yJ_bitCount : MethodName := ⟨"java/lang/Integer", "bitCount", "(I)I"⟩
abbrev cJ_bitCount : ByteArray := prog_15_method_49_code
abbrev mJ_bitCount : MI := (yJ_bitCount, cJ_bitCount, 1, (some .int))
theorem f_X7_9 : CkF RX7 9 7 0 "I" false false := ⟨(RX7, TX7, 6), rfl, by decide, ⟨rfl, rfl, rfl⟩, rfl, Or.inl (tb_g 162 (by decide +kernel) rfl)⟩
theorem f_X0_45 : CkF RX0 45 7 0 "I" false false := ⟨(RX7, TX7, 6), rfl, by decide, ⟨rfl, rfl, rfl⟩, rfl, Or.inr ⟨"RiverSteamers", tb_n 163 (by decide +kernel) rfl⟩⟩
theorem f_X7_15 : CkF RX7 15 7 1 "I" false false := ⟨(RX7, TX7, 6), rfl, by decide, ⟨rfl, rfl, rfl⟩, rfl, Or.inl (tb_g 164 (by decide +kernel) rfl)⟩
theorem f_X0_19 : CkF RX0 19 7 1 "I" false false := ⟨(RX7, TX7, 6), rfl, by decide, ⟨rfl, rfl, rfl⟩, rfl, Or.inr ⟨"RiverSteamers", tb_n 165 (by decide +kernel) rfl⟩⟩
theorem f_X11_89 : CkF RX11 89 7 1 "I" false false := ⟨(RX7, TX7, 6), rfl, by decide, ⟨rfl, rfl, rfl⟩, rfl, Or.inr ⟨"RiverSteamers", tb_n 166 (by decide +kernel) rfl⟩⟩
theorem f_X4_129 : CkF RX4 129 7 1 "I" false false := ⟨(RX7, TX7, 6), rfl, by decide, ⟨rfl, rfl, rfl⟩, rfl, Or.inr ⟨"RiverSteamers", tb_n 167 (by decide +kernel) rfl⟩⟩
theorem f_X7_18 : CkF RX7 18 7 2 "I" false false := ⟨(RX7, TX7, 6), rfl, by decide, ⟨rfl, rfl, rfl⟩, rfl, Or.inl (tb_g 168 (by decide +kernel) rfl)⟩
theorem f_X0_48 : CkF RX0 48 7 2 "I" false false := ⟨(RX7, TX7, 6), rfl, by decide, ⟨rfl, rfl, rfl⟩, rfl, Or.inr ⟨"RiverSteamers", tb_n 169 (by decide +kernel) rfl⟩⟩
theorem f_X4_153 : CkF RX4 153 7 2 "I" false false := ⟨(RX7, TX7, 6), rfl, by decide, ⟨rfl, rfl, rfl⟩, rfl, Or.inr ⟨"RiverSteamers", tb_n 170 (by decide +kernel) rfl⟩⟩
theorem f_X11_244 : CkF RX11 244 7 2 "I" false false := ⟨(RX7, TX7, 6), rfl, by decide, ⟨rfl, rfl, rfl⟩, rfl, Or.inr ⟨"RiverSteamers", tb_n 171 (by decide +kernel) rfl⟩⟩
theorem f_X7_21 : CkF RX7 21 7 3 "I" false false := ⟨(RX7, TX7, 6), rfl, by decide, ⟨rfl, rfl, rfl⟩, rfl, Or.inl (tb_g 172 (by decide +kernel) rfl)⟩
theorem f_X0_42 : CkF RX0 42 7 3 "I" false false := ⟨(RX7, TX7, 6), rfl, by decide, ⟨rfl, rfl, rfl⟩, rfl, Or.inr ⟨"RiverSteamers", tb_n 173 (by decide +kernel) rfl⟩⟩
theorem f_X4_132 : CkF RX4 132 7 3 "I" false false := ⟨(RX7, TX7, 6), rfl, by decide, ⟨rfl, rfl, rfl⟩, rfl, Or.inr ⟨"RiverSteamers", tb_n 174 (by decide +kernel) rfl⟩⟩
theorem f_X11_247 : CkF RX11 247 7 3 "I" false false := ⟨(RX7, TX7, 6), rfl, by decide, ⟨rfl, rfl, rfl⟩, rfl, Or.inr ⟨"RiverSteamers", tb_n 175 (by decide +kernel) rfl⟩⟩
theorem f_X7_24 : CkF RX7 24 7 4 "Z" false false := ⟨(RX7, TX7, 6), rfl, by decide, ⟨rfl, rfl, rfl⟩, rfl, Or.inl (tb_g 176 (by decide +kernel) rfl)⟩
theorem f_X11_103 : CkF RX11 103 7 4 "Z" false false := ⟨(RX7, TX7, 6), rfl, by decide, ⟨rfl, rfl, rfl⟩, rfl, Or.inr ⟨"RiverSteamers", tb_n 177 (by decide +kernel) rfl⟩⟩
theorem f_X4_146 : CkF RX4 146 7 4 "Z" false false := ⟨(RX7, TX7, 6), rfl, by decide, ⟨rfl, rfl, rfl⟩, rfl, Or.inr ⟨"RiverSteamers", tb_n 178 (by decide +kernel) rfl⟩⟩
theorem f_X7_28 : CkF RX7 28 7 5 "[I" true true := ⟨(RX7, TX7, 6), rfl, by decide, ⟨rfl, rfl, rfl⟩, rfl, Or.inl (tb_g 179 (by decide +kernel) rfl)⟩
theorem f_X11_96 : CkF RX11 96 7 5 "[I" true true := ⟨(RX7, TX7, 6), rfl, by decide, ⟨rfl, rfl, rfl⟩, rfl, Or.inr ⟨"RiverSteamers", tb_n 180 (by decide +kernel) rfl⟩⟩
theorem f_X10_9 : CkF RX10 9 10 0 "[I" true true := ⟨(RX10, TX10, 2), rfl, by decide, ⟨rfl, rfl, rfl⟩, rfl, Or.inl (tb_g 208 (by decide +kernel) rfl)⟩
theorem f_X4_179 : CkF RX4 179 10 0 "[I" true true := ⟨(RX10, TX10, 2), rfl, by decide, ⟨rfl, rfl, rfl⟩, rfl, Or.inr ⟨"RiverSteamers", tb_n 209 (by decide +kernel) rfl⟩⟩
theorem f_X10_15 : CkF RX10 15 10 1 "[I" true true := ⟨(RX10, TX10, 2), rfl, by decide, ⟨rfl, rfl, rfl⟩, rfl, Or.inl (tb_g 210 (by decide +kernel) rfl)⟩
theorem f_X3_7 : CkF RX3 7 3 0 "I" false false := ⟨(RX3, TX3, 2), rfl, by decide, ⟨rfl, rfl, rfl⟩, rfl, Or.inl (tb_g 216 (by decide +kernel) rfl)⟩
theorem f_X9_40 : CkF RX9 40 3 0 "I" false false := ⟨(RX3, TX3, 2), rfl, by decide, ⟨rfl, rfl, rfl⟩, rfl, Or.inr ⟨"RiverSteamers", tb_n 217 (by decide +kernel) rfl⟩⟩
theorem f_X11_204 : CkF RX11 204 3 0 "I" false false := ⟨(RX3, TX3, 2), rfl, by decide, ⟨rfl, rfl, rfl⟩, rfl, Or.inr ⟨"RiverSteamers", tb_n 218 (by decide +kernel) rfl⟩⟩
theorem f_X3_16 : CkF RX3 16 3 1 "LRiverSteamers$Words;" true true := ⟨(RX3, TX3, 2), rfl, by decide, ⟨rfl, rfl, rfl⟩, rfl, Or.inl (tb_g 219 (by decide +kernel) rfl)⟩
theorem f_X4_215 : CkF RX4 215 3 1 "LRiverSteamers$Words;" true true := ⟨(RX3, TX3, 2), rfl, by decide, ⟨rfl, rfl, rfl⟩, rfl, Or.inr ⟨"RiverSteamers", tb_n 220 (by decide +kernel) rfl⟩⟩
theorem f_X11_272 : CkF RX11 272 3 1 "LRiverSteamers$Words;" true true := ⟨(RX3, TX3, 2), rfl, by decide, ⟨rfl, rfl, rfl⟩, rfl, Or.inr ⟨"RiverSteamers", tb_n 221 (by decide +kernel) rfl⟩⟩
theorem f_X2_9 : CkF RX2 9 2 0 "I" false false := ⟨(RX2, TX2, 10), rfl, by decide, ⟨rfl, rfl, rfl⟩, rfl, Or.inl (tb_g 234 (by decide +kernel) rfl)⟩
theorem f_X2_15 : CkF RX2 15 2 1 "I" false false := ⟨(RX2, TX2, 10), rfl, by decide, ⟨rfl, rfl, rfl⟩, rfl, Or.inl (tb_g 235 (by decide +kernel) rfl)⟩
theorem f_X11_153 : CkF RX11 153 2 1 "I" false false := ⟨(RX2, TX2, 10), rfl, by decide, ⟨rfl, rfl, rfl⟩, rfl, Or.inr ⟨"RiverSteamers", tb_n 236 (by decide +kernel) rfl⟩⟩
theorem f_X2_18 : CkF RX2 18 2 2 "I" false false := ⟨(RX2, TX2, 10), rfl, by decide, ⟨rfl, rfl, rfl⟩, rfl, Or.inl (tb_g 237 (by decide +kernel) rfl)⟩
theorem f_X11_212 : CkF RX11 212 2 2 "I" false false := ⟨(RX2, TX2, 10), rfl, by decide, ⟨rfl, rfl, rfl⟩, rfl, Or.inr ⟨"RiverSteamers", tb_n 238 (by decide +kernel) rfl⟩⟩
theorem f_X2_21 : CkF RX2 21 2 3 "I" false false := ⟨(RX2, TX2, 10), rfl, by decide, ⟨rfl, rfl, rfl⟩, rfl, Or.inl (tb_g 239 (by decide +kernel) rfl)⟩
theorem f_X4_185 : CkF RX4 185 2 3 "I" false false := ⟨(RX2, TX2, 10), rfl, by decide, ⟨rfl, rfl, rfl⟩, rfl, Or.inr ⟨"RiverSteamers", tb_n 240 (by decide +kernel) rfl⟩⟩
theorem f_X11_209 : CkF RX11 209 2 3 "I" false false := ⟨(RX2, TX2, 10), rfl, by decide, ⟨rfl, rfl, rfl⟩, rfl, Or.inr ⟨"RiverSteamers", tb_n 241 (by decide +kernel) rfl⟩⟩
theorem f_X2_24 : CkF RX2 24 2 4 "I" false false := ⟨(RX2, TX2, 10), rfl, by decide, ⟨rfl, rfl, rfl⟩, rfl, Or.inl (tb_g 242 (by decide +kernel) rfl)⟩
theorem f_X11_147 : CkF RX11 147 2 4 "I" false false := ⟨(RX2, TX2, 10), rfl, by decide, ⟨rfl, rfl, rfl⟩, rfl, Or.inr ⟨"RiverSteamers", tb_n 243 (by decide +kernel) rfl⟩⟩
theorem f_X2_27 : CkF RX2 27 2 5 "I" false false := ⟨(RX2, TX2, 10), rfl, by decide, ⟨rfl, rfl, rfl⟩, rfl, Or.inl (tb_g 244 (by decide +kernel) rfl)⟩
theorem f_X11_142 : CkF RX11 142 2 5 "I" false false := ⟨(RX2, TX2, 10), rfl, by decide, ⟨rfl, rfl, rfl⟩, rfl, Or.inr ⟨"RiverSteamers", tb_n 245 (by decide +kernel) rfl⟩⟩
theorem f_X4_160 : CkF RX4 160 2 5 "I" false false := ⟨(RX2, TX2, 10), rfl, by decide, ⟨rfl, rfl, rfl⟩, rfl, Or.inr ⟨"RiverSteamers", tb_n 246 (by decide +kernel) rfl⟩⟩
theorem f_X2_30 : CkF RX2 30 2 6 "I" false false := ⟨(RX2, TX2, 10), rfl, by decide, ⟨rfl, rfl, rfl⟩, rfl, Or.inl (tb_g 247 (by decide +kernel) rfl)⟩
theorem f_X11_146 : CkF RX11 146 2 6 "I" false false := ⟨(RX2, TX2, 10), rfl, by decide, ⟨rfl, rfl, rfl⟩, rfl, Or.inr ⟨"RiverSteamers", tb_n 248 (by decide +kernel) rfl⟩⟩
theorem f_X4_199 : CkF RX4 199 2 6 "I" false false := ⟨(RX2, TX2, 10), rfl, by decide, ⟨rfl, rfl, rfl⟩, rfl, Or.inr ⟨"RiverSteamers", tb_n 249 (by decide +kernel) rfl⟩⟩
theorem f_X2_33 : CkF RX2 33 2 7 "I" false false := ⟨(RX2, TX2, 10), rfl, by decide, ⟨rfl, rfl, rfl⟩, rfl, Or.inl (tb_g 250 (by decide +kernel) rfl)⟩
theorem f_X11_187 : CkF RX11 187 2 7 "I" false false := ⟨(RX2, TX2, 10), rfl, by decide, ⟨rfl, rfl, rfl⟩, rfl, Or.inr ⟨"RiverSteamers", tb_n 251 (by decide +kernel) rfl⟩⟩
theorem f_X4_202 : CkF RX4 202 2 7 "I" false false := ⟨(RX2, TX2, 10), rfl, by decide, ⟨rfl, rfl, rfl⟩, rfl, Or.inr ⟨"RiverSteamers", tb_n 252 (by decide +kernel) rfl⟩⟩
theorem f_X2_36 : CkF RX2 36 2 8 "I" false false := ⟨(RX2, TX2, 10), rfl, by decide, ⟨rfl, rfl, rfl⟩, rfl, Or.inl (tb_g 253 (by decide +kernel) rfl)⟩
theorem f_X4_205 : CkF RX4 205 2 8 "I" false false := ⟨(RX2, TX2, 10), rfl, by decide, ⟨rfl, rfl, rfl⟩, rfl, Or.inr ⟨"RiverSteamers", tb_n 254 (by decide +kernel) rfl⟩⟩
theorem f_X11_260 : CkF RX11 260 2 8 "I" false false := ⟨(RX2, TX2, 10), rfl, by decide, ⟨rfl, rfl, rfl⟩, rfl, Or.inr ⟨"RiverSteamers", tb_n 255 (by decide +kernel) rfl⟩⟩
theorem f_X2_42 : CkF RX2 42 2 9 "LRiverSteamers$Words;" true true := ⟨(RX2, TX2, 10), rfl, by decide, ⟨rfl, rfl, rfl⟩, rfl, Or.inl (tb_g 256 (by decide +kernel) rfl)⟩
theorem f_X4_170 : CkF RX4 170 2 9 "LRiverSteamers$Words;" true true := ⟨(RX2, TX2, 10), rfl, by decide, ⟨rfl, rfl, rfl⟩, rfl, Or.inr ⟨"RiverSteamers", tb_n 257 (by decide +kernel) rfl⟩⟩
theorem f_X11_263 : CkF RX11 263 2 9 "LRiverSteamers$Words;" true true := ⟨(RX2, TX2, 10), rfl, by decide, ⟨rfl, rfl, rfl⟩, rfl, Or.inr ⟨"RiverSteamers", tb_n 258 (by decide +kernel) rfl⟩⟩
theorem f_X1_9 : CkF RX1 9 1 0 "I" false false := ⟨(RX1, TX1, 5), rfl, by decide, ⟨rfl, rfl, rfl⟩, rfl, Or.inl (tb_g 285 (by decide +kernel) rfl)⟩
theorem f_X11_164 : CkF RX11 164 1 0 "I" false false := ⟨(RX1, TX1, 5), rfl, by decide, ⟨rfl, rfl, rfl⟩, rfl, Or.inr ⟨"RiverSteamers", tb_n 286 (by decide +kernel) rfl⟩⟩
theorem f_X1_15 : CkF RX1 15 1 1 "I" false false := ⟨(RX1, TX1, 5), rfl, by decide, ⟨rfl, rfl, rfl⟩, rfl, Or.inl (tb_g 287 (by decide +kernel) rfl)⟩
theorem f_X11_150 : CkF RX11 150 1 1 "I" false false := ⟨(RX1, TX1, 5), rfl, by decide, ⟨rfl, rfl, rfl⟩, rfl, Or.inr ⟨"RiverSteamers", tb_n 288 (by decide +kernel) rfl⟩⟩
theorem f_X1_18 : CkF RX1 18 1 2 "I" false false := ⟨(RX1, TX1, 5), rfl, by decide, ⟨rfl, rfl, rfl⟩, rfl, Or.inl (tb_g 289 (by decide +kernel) rfl)⟩
theorem f_X11_170 : CkF RX11 170 1 2 "I" false false := ⟨(RX1, TX1, 5), rfl, by decide, ⟨rfl, rfl, rfl⟩, rfl, Or.inr ⟨"RiverSteamers", tb_n 290 (by decide +kernel) rfl⟩⟩
theorem f_X1_21 : CkF RX1 21 1 3 "I" false false := ⟨(RX1, TX1, 5), rfl, by decide, ⟨rfl, rfl, rfl⟩, rfl, Or.inl (tb_g 291 (by decide +kernel) rfl)⟩
theorem f_X11_139 : CkF RX11 139 1 3 "I" false false := ⟨(RX1, TX1, 5), rfl, by decide, ⟨rfl, rfl, rfl⟩, rfl, Or.inr ⟨"RiverSteamers", tb_n 292 (by decide +kernel) rfl⟩⟩
theorem f_X4_220 : CkF RX4 220 1 3 "I" false false := ⟨(RX1, TX1, 5), rfl, by decide, ⟨rfl, rfl, rfl⟩, rfl, Or.inr ⟨"RiverSteamers", tb_n 293 (by decide +kernel) rfl⟩⟩
theorem f_X1_24 : CkF RX1 24 1 4 "I" false false := ⟨(RX1, TX1, 5), rfl, by decide, ⟨rfl, rfl, rfl⟩, rfl, Or.inl (tb_g 294 (by decide +kernel) rfl)⟩
theorem f_X11_143 : CkF RX11 143 1 4 "I" false false := ⟨(RX1, TX1, 5), rfl, by decide, ⟨rfl, rfl, rfl⟩, rfl, Or.inr ⟨"RiverSteamers", tb_n 295 (by decide +kernel) rfl⟩⟩
theorem f_X4_221 : CkF RX4 221 1 4 "I" false false := ⟨(RX1, TX1, 5), rfl, by decide, ⟨rfl, rfl, rfl⟩, rfl, Or.inr ⟨"RiverSteamers", tb_n 296 (by decide +kernel) rfl⟩⟩
theorem f_X8_7 : CkF RX8 7 8 0 "I" false false := ⟨(RX8, TX8, 3), rfl, by decide, ⟨rfl, rfl, rfl⟩, rfl, Or.inl (tb_g 313 (by decide +kernel) rfl)⟩
theorem f_X8_13 : CkF RX8 13 8 1 "I" false false := ⟨(RX8, TX8, 3), rfl, by decide, ⟨rfl, rfl, rfl⟩, rfl, Or.inl (tb_g 314 (by decide +kernel) rfl)⟩
theorem f_X8_16 : CkF RX8 16 8 2 "I" false false := ⟨(RX8, TX8, 3), rfl, by decide, ⟨rfl, rfl, rfl⟩, rfl, Or.inl (tb_g 315 (by decide +kernel) rfl)⟩
theorem f_X4_233 : CkF RX4 233 8 2 "I" false false := ⟨(RX8, TX8, 3), rfl, by decide, ⟨rfl, rfl, rfl⟩, rfl, Or.inr ⟨"RiverSteamers", tb_n 316 (by decide +kernel) rfl⟩⟩
theorem f_X5_7 : CkF RX5 7 5 0 "I" false false := ⟨(RX5, TX5, 4), rfl, by decide, ⟨rfl, rfl, rfl⟩, rfl, Or.inl (tb_g 329 (by decide +kernel) rfl)⟩
theorem f_X11_304 : CkF RX11 304 5 0 "I" false false := ⟨(RX5, TX5, 4), rfl, by decide, ⟨rfl, rfl, rfl⟩, rfl, Or.inr ⟨"RiverSteamers", tb_n 330 (by decide +kernel) rfl⟩⟩
theorem f_X5_13 : CkF RX5 13 5 1 "I" false false := ⟨(RX5, TX5, 4), rfl, by decide, ⟨rfl, rfl, rfl⟩, rfl, Or.inl (tb_g 331 (by decide +kernel) rfl)⟩
theorem f_X11_305 : CkF RX11 305 5 1 "I" false false := ⟨(RX5, TX5, 4), rfl, by decide, ⟨rfl, rfl, rfl⟩, rfl, Or.inr ⟨"RiverSteamers", tb_n 332 (by decide +kernel) rfl⟩⟩
theorem f_X5_16 : CkF RX5 16 5 2 "I" false false := ⟨(RX5, TX5, 4), rfl, by decide, ⟨rfl, rfl, rfl⟩, rfl, Or.inl (tb_g 333 (by decide +kernel) rfl)⟩
theorem f_X5_19 : CkF RX5 19 5 3 "I" false false := ⟨(RX5, TX5, 4), rfl, by decide, ⟨rfl, rfl, rfl⟩, rfl, Or.inl (tb_g 334 (by decide +kernel) rfl)⟩
theorem f_X4_9 : CkF RX4 9 4 0 "I" false false := ⟨(RX4, TX4, 16), rfl, by decide, ⟨rfl, rfl, rfl⟩, rfl, Or.inl (tb_g 344 (by decide +kernel) rfl)⟩
theorem f_X11_194 : CkF RX11 194 4 0 "I" false false := ⟨(RX4, TX4, 16), rfl, by decide, ⟨rfl, rfl, rfl⟩, rfl, Or.inr ⟨"RiverSteamers", tb_n 345 (by decide +kernel) rfl⟩⟩
theorem f_X4_15 : CkF RX4 15 4 1 "I" false false := ⟨(RX4, TX4, 16), rfl, by decide, ⟨rfl, rfl, rfl⟩, rfl, Or.inl (tb_g 346 (by decide +kernel) rfl)⟩
theorem f_X11_59 : CkF RX11 59 4 1 "I" false false := ⟨(RX4, TX4, 16), rfl, by decide, ⟨rfl, rfl, rfl⟩, rfl, Or.inr ⟨"RiverSteamers", tb_n 347 (by decide +kernel) rfl⟩⟩
theorem f_X4_18 : CkF RX4 18 4 2 "I" false false := ⟨(RX4, TX4, 16), rfl, by decide, ⟨rfl, rfl, rfl⟩, rfl, Or.inl (tb_g 348 (by decide +kernel) rfl)⟩
theorem f_X11_110 : CkF RX11 110 4 2 "I" false false := ⟨(RX4, TX4, 16), rfl, by decide, ⟨rfl, rfl, rfl⟩, rfl, Or.inr ⟨"RiverSteamers", tb_n 349 (by decide +kernel) rfl⟩⟩
theorem f_X4_21 : CkF RX4 21 4 3 "I" false false := ⟨(RX4, TX4, 16), rfl, by decide, ⟨rfl, rfl, rfl⟩, rfl, Or.inl (tb_g 350 (by decide +kernel) rfl)⟩
theorem f_X11_123 : CkF RX11 123 4 3 "I" false false := ⟨(RX4, TX4, 16), rfl, by decide, ⟨rfl, rfl, rfl⟩, rfl, Or.inr ⟨"RiverSteamers", tb_n 351 (by decide +kernel) rfl⟩⟩
theorem f_X4_24 : CkF RX4 24 4 4 "I" false false := ⟨(RX4, TX4, 16), rfl, by decide, ⟨rfl, rfl, rfl⟩, rfl, Or.inl (tb_g 352 (by decide +kernel) rfl)⟩
theorem f_X11_215 : CkF RX11 215 4 4 "I" false false := ⟨(RX4, TX4, 16), rfl, by decide, ⟨rfl, rfl, rfl⟩, rfl, Or.inr ⟨"RiverSteamers", tb_n 353 (by decide +kernel) rfl⟩⟩
theorem f_X4_27 : CkF RX4 27 4 5 "I" false false := ⟨(RX4, TX4, 16), rfl, by decide, ⟨rfl, rfl, rfl⟩, rfl, Or.inl (tb_g 354 (by decide +kernel) rfl)⟩
theorem f_X11_227 : CkF RX11 227 4 5 "I" false false := ⟨(RX4, TX4, 16), rfl, by decide, ⟨rfl, rfl, rfl⟩, rfl, Or.inr ⟨"RiverSteamers", tb_n 355 (by decide +kernel) rfl⟩⟩
theorem f_X4_30 : CkF RX4 30 4 6 "I" false false := ⟨(RX4, TX4, 16), rfl, by decide, ⟨rfl, rfl, rfl⟩, rfl, Or.inl (tb_g 356 (by decide +kernel) rfl)⟩
theorem f_X11_83 : CkF RX11 83 4 6 "I" false false := ⟨(RX4, TX4, 16), rfl, by decide, ⟨rfl, rfl, rfl⟩, rfl, Or.inr ⟨"RiverSteamers", tb_n 357 (by decide +kernel) rfl⟩⟩
theorem f_X4_33 : CkF RX4 33 4 7 "I" false false := ⟨(RX4, TX4, 16), rfl, by decide, ⟨rfl, rfl, rfl⟩, rfl, Or.inl (tb_g 358 (by decide +kernel) rfl)⟩
theorem f_X11_167 : CkF RX11 167 4 7 "I" false false := ⟨(RX4, TX4, 16), rfl, by decide, ⟨rfl, rfl, rfl⟩, rfl, Or.inr ⟨"RiverSteamers", tb_n 359 (by decide +kernel) rfl⟩⟩
theorem f_X4_36 : CkF RX4 36 4 8 "[I" true true := ⟨(RX4, TX4, 16), rfl, by decide, ⟨rfl, rfl, rfl⟩, rfl, Or.inl (tb_g 360 (by decide +kernel) rfl)⟩
theorem f_X4_40 : CkF RX4 40 4 9 "[Z" true true := ⟨(RX4, TX4, 16), rfl, by decide, ⟨rfl, rfl, rfl⟩, rfl, Or.inl (tb_g 361 (by decide +kernel) rfl)⟩
theorem f_X11_99 : CkF RX11 99 4 9 "[Z" true true := ⟨(RX4, TX4, 16), rfl, by decide, ⟨rfl, rfl, rfl⟩, rfl, Or.inr ⟨"RiverSteamers", tb_n 362 (by decide +kernel) rfl⟩⟩
theorem f_X4_46 : CkF RX4 46 4 10 "[LRiverSteamers$Stretch;" true true := ⟨(RX4, TX4, 16), rfl, by decide, ⟨rfl, rfl, rfl⟩, rfl, Or.inl (tb_g 363 (by decide +kernel) rfl)⟩
theorem f_X11_62 : CkF RX11 62 4 10 "[LRiverSteamers$Stretch;" true true := ⟨(RX4, TX4, 16), rfl, by decide, ⟨rfl, rfl, rfl⟩, rfl, Or.inr ⟨"RiverSteamers", tb_n 364 (by decide +kernel) rfl⟩⟩
theorem f_X4_52 : CkF RX4 52 4 11 "[LRiverSteamers$Landing;" true true := ⟨(RX4, TX4, 16), rfl, by decide, ⟨rfl, rfl, rfl⟩, rfl, Or.inl (tb_g 365 (by decide +kernel) rfl)⟩
theorem f_X9_34 : CkF RX9 34 4 11 "[LRiverSteamers$Landing;" true true := ⟨(RX4, TX4, 16), rfl, by decide, ⟨rfl, rfl, rfl⟩, rfl, Or.inr ⟨"RiverSteamers", tb_n 366 (by decide +kernel) rfl⟩⟩
theorem f_X11_200 : CkF RX11 200 4 11 "[LRiverSteamers$Landing;" true true := ⟨(RX4, TX4, 16), rfl, by decide, ⟨rfl, rfl, rfl⟩, rfl, Or.inr ⟨"RiverSteamers", tb_n 367 (by decide +kernel) rfl⟩⟩
theorem f_X4_58 : CkF RX4 58 4 12 "[LRiverSteamers$Boat;" true true := ⟨(RX4, TX4, 16), rfl, by decide, ⟨rfl, rfl, rfl⟩, rfl, Or.inl (tb_g 368 (by decide +kernel) rfl)⟩
theorem f_X11_113 : CkF RX11 113 4 12 "[LRiverSteamers$Boat;" true true := ⟨(RX4, TX4, 16), rfl, by decide, ⟨rfl, rfl, rfl⟩, rfl, Or.inr ⟨"RiverSteamers", tb_n 369 (by decide +kernel) rfl⟩⟩
theorem f_X4_64 : CkF RX4 64 4 13 "[LRiverSteamers$Bale;" true true := ⟨(RX4, TX4, 16), rfl, by decide, ⟨rfl, rfl, rfl⟩, rfl, Or.inl (tb_g 370 (by decide +kernel) rfl)⟩
theorem f_X11_126 : CkF RX11 126 4 13 "[LRiverSteamers$Bale;" true true := ⟨(RX4, TX4, 16), rfl, by decide, ⟨rfl, rfl, rfl⟩, rfl, Or.inr ⟨"RiverSteamers", tb_n 371 (by decide +kernel) rfl⟩⟩
theorem f_X4_70 : CkF RX4 70 4 14 "[LRiverSteamers$Trip;" true true := ⟨(RX4, TX4, 16), rfl, by decide, ⟨rfl, rfl, rfl⟩, rfl, Or.inl (tb_g 372 (by decide +kernel) rfl)⟩
theorem f_X11_218 : CkF RX11 218 4 14 "[LRiverSteamers$Trip;" true true := ⟨(RX4, TX4, 16), rfl, by decide, ⟨rfl, rfl, rfl⟩, rfl, Or.inr ⟨"RiverSteamers", tb_n 373 (by decide +kernel) rfl⟩⟩
theorem f_X4_76 : CkF RX4 76 4 15 "[LRiverSteamers$Rule;" true true := ⟨(RX4, TX4, 16), rfl, by decide, ⟨rfl, rfl, rfl⟩, rfl, Or.inl (tb_g 374 (by decide +kernel) rfl)⟩
theorem f_X11_230 : CkF RX11 230 4 15 "[LRiverSteamers$Rule;" true true := ⟨(RX4, TX4, 16), rfl, by decide, ⟨rfl, rfl, rfl⟩, rfl, Or.inr ⟨"RiverSteamers", tb_n 375 (by decide +kernel) rfl⟩⟩
theorem f_X0_9 : CkF RX0 9 0 0 "I" false false := ⟨(RX0, TX0, 2), rfl, by decide, ⟨rfl, rfl, rfl⟩, rfl, Or.inl (tb_g 417 (by decide +kernel) rfl)⟩
theorem f_X11_316 : CkF RX11 316 0 0 "I" false false := ⟨(RX0, TX0, 2), rfl, by decide, ⟨rfl, rfl, rfl⟩, rfl, Or.inr ⟨"RiverSteamers", tb_n 418 (by decide +kernel) rfl⟩⟩
theorem f_X0_15 : CkF RX0 15 0 1 "[I" true true := ⟨(RX0, TX0, 2), rfl, by decide, ⟨rfl, rfl, rfl⟩, rfl, Or.inl (tb_g 419 (by decide +kernel) rfl)⟩
theorem f_X11_322 : CkF RX11 322 0 1 "[I" true true := ⟨(RX0, TX0, 2), rfl, by decide, ⟨rfl, rfl, rfl⟩, rfl, Or.inr ⟨"RiverSteamers", tb_n 420 (by decide +kernel) rfl⟩⟩
theorem f_X9_9 : CkF RX9 9 9 0 "I" false false := ⟨(RX9, TX9, 5), rfl, by decide, ⟨rfl, rfl, rfl⟩, rfl, Or.inl (tb_g 432 (by decide +kernel) rfl)⟩
theorem f_X9_15 : CkF RX9 15 9 1 "I" false false := ⟨(RX9, TX9, 5), rfl, by decide, ⟨rfl, rfl, rfl⟩, rfl, Or.inl (tb_g 433 (by decide +kernel) rfl)⟩
theorem f_X9_18 : CkF RX9 18 9 2 "[I" true true := ⟨(RX9, TX9, 5), rfl, by decide, ⟨rfl, rfl, rfl⟩, rfl, Or.inl (tb_g 434 (by decide +kernel) rfl)⟩
theorem f_X9_22 : CkF RX9 22 9 3 "[I" true true := ⟨(RX9, TX9, 5), rfl, by decide, ⟨rfl, rfl, rfl⟩, rfl, Or.inl (tb_g 435 (by decide +kernel) rfl)⟩
theorem f_X9_25 : CkF RX9 25 9 4 "[I" true true := ⟨(RX9, TX9, 5), rfl, by decide, ⟨rfl, rfl, rfl⟩, rfl, Or.inl (tb_g 436 (by decide +kernel) rfl)⟩
theorem f_X6_9 : CkF RX6 9 6 0 "I" false false := ⟨(RX6, TX6, 3), rfl, by decide, ⟨rfl, rfl, rfl⟩, rfl, Or.inl (tb_g 453 (by decide +kernel) rfl)⟩
theorem f_X6_15 : CkF RX6 15 6 1 "I" false false := ⟨(RX6, TX6, 3), rfl, by decide, ⟨rfl, rfl, rfl⟩, rfl, Or.inl (tb_g 454 (by decide +kernel) rfl)⟩
theorem f_X11_375 : CkF RX11 375 6 1 "I" false false := ⟨(RX6, TX6, 3), rfl, by decide, ⟨rfl, rfl, rfl⟩, rfl, Or.inr ⟨"RiverSteamers", tb_n 455 (by decide +kernel) rfl⟩⟩
theorem f_X6_18 : CkF RX6 18 6 2 "[I" true true := ⟨(RX6, TX6, 3), rfl, by decide, ⟨rfl, rfl, rfl⟩, rfl, Or.inl (tb_g 456 (by decide +kernel) rfl)⟩
theorem f_X11_342 : CkF RX11 342 6 2 "[I" true true := ⟨(RX6, TX6, 3), rfl, by decide, ⟨rfl, rfl, rfl⟩, rfl, Or.inr ⟨"RiverSteamers", tb_n 457 (by decide +kernel) rfl⟩⟩
theorem f_X11_10 : CkF RX11 10 11 0 "LRiverSteamers$River;" true true := ⟨(RX11, TX11, 8), rfl, by decide, ⟨rfl, rfl, rfl⟩, rfl, Or.inl (tb_g 465 (by decide +kernel) rfl)⟩
theorem f_X11_16 : CkF RX11 16 11 1 "LRiverSteamers$River;" true false := ⟨(RX11, TX11, 8), rfl, by decide, ⟨rfl, rfl, rfl⟩, rfl, Or.inl (tb_g 466 (by decide +kernel) rfl)⟩
theorem f_X11_19 : CkF RX11 19 11 2 "I" false false := ⟨(RX11, TX11, 8), rfl, by decide, ⟨rfl, rfl, rfl⟩, rfl, Or.inl (tb_g 467 (by decide +kernel) rfl)⟩
theorem f_X11_23 : CkF RX11 23 11 3 "I" false false := ⟨(RX11, TX11, 8), rfl, by decide, ⟨rfl, rfl, rfl⟩, rfl, Or.inl (tb_g 468 (by decide +kernel) rfl)⟩
theorem f_X11_28 : CkF RX11 28 11 4 "[LRiverSteamers$Sheet;" true true := ⟨(RX11, TX11, 8), rfl, by decide, ⟨rfl, rfl, rfl⟩, rfl, Or.inl (tb_g 469 (by decide +kernel) rfl)⟩
theorem f_X11_35 : CkF RX11 35 11 5 "LRiverSteamers$Acts;" true true := ⟨(RX11, TX11, 8), rfl, by decide, ⟨rfl, rfl, rfl⟩, rfl, Or.inl (tb_g 470 (by decide +kernel) rfl)⟩
theorem f_X11_42 : CkF RX11 42 11 6 "LRiverSteamers$Wooding;" true true := ⟨(RX11, TX11, 8), rfl, by decide, ⟨rfl, rfl, rfl⟩, rfl, Or.inl (tb_g 471 (by decide +kernel) rfl)⟩
theorem f_X11_46 : CkF RX11 46 11 7 "[I" true true := ⟨(RX11, TX11, 8), rfl, by decide, ⟨rfl, rfl, rfl⟩, rfl, Or.inl (tb_g 472 (by decide +kernel) rfl)⟩
theorem f_X11_366 : Cond.fieldLink RX11 366 "RiverSteamers" "KIND_ABOVE" "[I" ∈ TBg := tb_g 533 (by decide +kernel) rfl
theorem f_X0_28 : Cond.fieldLink RX0 28 "RiverSteamers$Acts" "BODIES" "[I" ∈ TBg := tb_g 927 (by decide +kernel) rfl
theorem f_X0_31 : Cond.fieldLinkNest RX0 31 "RiverSteamers" "KIND_ABOVE" "[I" "RiverSteamers" ∈ TBn := tb_n 929 (by decide +kernel) rfl
theorem f_X12_167 : CkF RX12 167 12 0 "I" false false := ⟨(RX12, TX12, 64), rfl, by decide, ⟨rfl, rfl, rfl⟩, rfl, Or.inl (tb_g 1017 (by decide +kernel) rfl)⟩
theorem f_X12_184 : CkF RX12 184 12 1 "I" false false := ⟨(RX12, TX12, 64), rfl, by decide, ⟨rfl, rfl, rfl⟩, rfl, Or.inl (tb_g 1018 (by decide +kernel) rfl)⟩
theorem f_X12_171 : CkF RX12 171 12 2 "I" false false := ⟨(RX12, TX12, 64), rfl, by decide, ⟨rfl, rfl, rfl⟩, rfl, Or.inl (tb_g 1019 (by decide +kernel) rfl)⟩
theorem f_X12_7 : CkF RX12 7 12 3 "[I" true true := ⟨(RX12, TX12, 64), rfl, by decide, ⟨rfl, rfl, rfl⟩, rfl, Or.inl (tb_g 1020 (by decide +kernel) rfl)⟩
theorem f_X12_13 : CkF RX12 13 12 4 "[I" true true := ⟨(RX12, TX12, 64), rfl, by decide, ⟨rfl, rfl, rfl⟩, rfl, Or.inl (tb_g 1021 (by decide +kernel) rfl)⟩
theorem f_X12_16 : CkF RX12 16 12 5 "[I" true true := ⟨(RX12, TX12, 64), rfl, by decide, ⟨rfl, rfl, rfl⟩, rfl, Or.inl (tb_g 1022 (by decide +kernel) rfl)⟩
theorem f_X12_19 : CkF RX12 19 12 6 "[Z" true true := ⟨(RX12, TX12, 64), rfl, by decide, ⟨rfl, rfl, rfl⟩, rfl, Or.inl (tb_g 1023 (by decide +kernel) rfl)⟩
theorem f_X12_23 : CkF RX12 23 12 7 "[I" true true := ⟨(RX12, TX12, 64), rfl, by decide, ⟨rfl, rfl, rfl⟩, rfl, Or.inl (tb_g 1024 (by decide +kernel) rfl)⟩
theorem f_X12_26 : CkF RX12 26 12 8 "[Z" true true := ⟨(RX12, TX12, 64), rfl, by decide, ⟨rfl, rfl, rfl⟩, rfl, Or.inl (tb_g 1025 (by decide +kernel) rfl)⟩
theorem f_X12_29 : CkF RX12 29 12 9 "[I" true true := ⟨(RX12, TX12, 64), rfl, by decide, ⟨rfl, rfl, rfl⟩, rfl, Or.inl (tb_g 1026 (by decide +kernel) rfl)⟩
theorem f_X12_32 : CkF RX12 32 12 10 "[Z" true true := ⟨(RX12, TX12, 64), rfl, by decide, ⟨rfl, rfl, rfl⟩, rfl, Or.inl (tb_g 1027 (by decide +kernel) rfl)⟩
theorem f_X12_35 : CkF RX12 35 12 11 "[Z" true true := ⟨(RX12, TX12, 64), rfl, by decide, ⟨rfl, rfl, rfl⟩, rfl, Or.inl (tb_g 1028 (by decide +kernel) rfl)⟩
theorem f_X12_178 : CkF RX12 178 12 12 "I" false false := ⟨(RX12, TX12, 64), rfl, by decide, ⟨rfl, rfl, rfl⟩, rfl, Or.inl (tb_g 1029 (by decide +kernel) rfl)⟩
theorem f_X12_38 : CkF RX12 38 12 13 "[I" true true := ⟨(RX12, TX12, 64), rfl, by decide, ⟨rfl, rfl, rfl⟩, rfl, Or.inl (tb_g 1030 (by decide +kernel) rfl)⟩
theorem f_X12_41 : CkF RX12 41 12 14 "[I" true true := ⟨(RX12, TX12, 64), rfl, by decide, ⟨rfl, rfl, rfl⟩, rfl, Or.inl (tb_g 1031 (by decide +kernel) rfl)⟩
theorem f_X12_44 : CkF RX12 44 12 15 "[I" true true := ⟨(RX12, TX12, 64), rfl, by decide, ⟨rfl, rfl, rfl⟩, rfl, Or.inl (tb_g 1032 (by decide +kernel) rfl)⟩
theorem f_X12_47 : CkF RX12 47 12 16 "[I" true true := ⟨(RX12, TX12, 64), rfl, by decide, ⟨rfl, rfl, rfl⟩, rfl, Or.inl (tb_g 1033 (by decide +kernel) rfl)⟩
theorem f_X12_50 : CkF RX12 50 12 17 "[I" true true := ⟨(RX12, TX12, 64), rfl, by decide, ⟨rfl, rfl, rfl⟩, rfl, Or.inl (tb_g 1034 (by decide +kernel) rfl)⟩
theorem f_X12_53 : CkF RX12 53 12 18 "[I" true true := ⟨(RX12, TX12, 64), rfl, by decide, ⟨rfl, rfl, rfl⟩, rfl, Or.inl (tb_g 1035 (by decide +kernel) rfl)⟩
theorem f_X12_56 : CkF RX12 56 12 19 "[I" true true := ⟨(RX12, TX12, 64), rfl, by decide, ⟨rfl, rfl, rfl⟩, rfl, Or.inl (tb_g 1036 (by decide +kernel) rfl)⟩
theorem f_X12_59 : CkF RX12 59 12 20 "[I" true true := ⟨(RX12, TX12, 64), rfl, by decide, ⟨rfl, rfl, rfl⟩, rfl, Or.inl (tb_g 1037 (by decide +kernel) rfl)⟩
theorem f_X12_62 : CkF RX12 62 12 21 "[I" true true := ⟨(RX12, TX12, 64), rfl, by decide, ⟨rfl, rfl, rfl⟩, rfl, Or.inl (tb_g 1038 (by decide +kernel) rfl)⟩
theorem f_X12_65 : CkF RX12 65 12 22 "[I" true true := ⟨(RX12, TX12, 64), rfl, by decide, ⟨rfl, rfl, rfl⟩, rfl, Or.inl (tb_g 1039 (by decide +kernel) rfl)⟩
theorem f_X12_68 : CkF RX12 68 12 23 "[I" true true := ⟨(RX12, TX12, 64), rfl, by decide, ⟨rfl, rfl, rfl⟩, rfl, Or.inl (tb_g 1040 (by decide +kernel) rfl)⟩
theorem f_X12_181 : CkF RX12 181 12 24 "I" false false := ⟨(RX12, TX12, 64), rfl, by decide, ⟨rfl, rfl, rfl⟩, rfl, Or.inl (tb_g 1041 (by decide +kernel) rfl)⟩
theorem f_X12_71 : CkF RX12 71 12 25 "[I" true true := ⟨(RX12, TX12, 64), rfl, by decide, ⟨rfl, rfl, rfl⟩, rfl, Or.inl (tb_g 1042 (by decide +kernel) rfl)⟩
theorem f_X12_74 : CkF RX12 74 12 26 "[I" true true := ⟨(RX12, TX12, 64), rfl, by decide, ⟨rfl, rfl, rfl⟩, rfl, Or.inl (tb_g 1043 (by decide +kernel) rfl)⟩
theorem f_X12_77 : CkF RX12 77 12 27 "[I" true true := ⟨(RX12, TX12, 64), rfl, by decide, ⟨rfl, rfl, rfl⟩, rfl, Or.inl (tb_g 1044 (by decide +kernel) rfl)⟩
theorem f_X12_80 : CkF RX12 80 12 28 "[I" true true := ⟨(RX12, TX12, 64), rfl, by decide, ⟨rfl, rfl, rfl⟩, rfl, Or.inl (tb_g 1045 (by decide +kernel) rfl)⟩
theorem f_X12_83 : CkF RX12 83 12 29 "[I" true true := ⟨(RX12, TX12, 64), rfl, by decide, ⟨rfl, rfl, rfl⟩, rfl, Or.inl (tb_g 1046 (by decide +kernel) rfl)⟩
theorem f_X12_244 : CkF RX12 244 12 30 "I" false false := ⟨(RX12, TX12, 64), rfl, by decide, ⟨rfl, rfl, rfl⟩, rfl, Or.inl (tb_g 1047 (by decide +kernel) rfl)⟩
theorem f_X12_287 : CkF RX12 287 12 31 "I" false false := ⟨(RX12, TX12, 64), rfl, by decide, ⟨rfl, rfl, rfl⟩, rfl, Or.inl (tb_g 1048 (by decide +kernel) rfl)⟩
theorem f_X12_86 : CkF RX12 86 12 32 "[I" true true := ⟨(RX12, TX12, 64), rfl, by decide, ⟨rfl, rfl, rfl⟩, rfl, Or.inl (tb_g 1049 (by decide +kernel) rfl)⟩
theorem f_X12_89 : CkF RX12 89 12 33 "[I" true true := ⟨(RX12, TX12, 64), rfl, by decide, ⟨rfl, rfl, rfl⟩, rfl, Or.inl (tb_g 1050 (by decide +kernel) rfl)⟩
theorem f_X12_92 : CkF RX12 92 12 34 "[I" true true := ⟨(RX12, TX12, 64), rfl, by decide, ⟨rfl, rfl, rfl⟩, rfl, Or.inl (tb_g 1051 (by decide +kernel) rfl)⟩
theorem f_X12_296 : CkF RX12 296 12 35 "I" false false := ⟨(RX12, TX12, 64), rfl, by decide, ⟨rfl, rfl, rfl⟩, rfl, Or.inl (tb_g 1052 (by decide +kernel) rfl)⟩
theorem f_X12_95 : CkF RX12 95 12 36 "[I" true true := ⟨(RX12, TX12, 64), rfl, by decide, ⟨rfl, rfl, rfl⟩, rfl, Or.inl (tb_g 1053 (by decide +kernel) rfl)⟩
theorem f_X12_98 : CkF RX12 98 12 37 "[I" true true := ⟨(RX12, TX12, 64), rfl, by decide, ⟨rfl, rfl, rfl⟩, rfl, Or.inl (tb_g 1054 (by decide +kernel) rfl)⟩
theorem f_X12_101 : CkF RX12 101 12 38 "[I" true true := ⟨(RX12, TX12, 64), rfl, by decide, ⟨rfl, rfl, rfl⟩, rfl, Or.inl (tb_g 1055 (by decide +kernel) rfl)⟩
theorem f_X12_104 : CkF RX12 104 12 39 "[I" true true := ⟨(RX12, TX12, 64), rfl, by decide, ⟨rfl, rfl, rfl⟩, rfl, Or.inl (tb_g 1056 (by decide +kernel) rfl)⟩
theorem f_X12_107 : CkF RX12 107 12 40 "[I" true true := ⟨(RX12, TX12, 64), rfl, by decide, ⟨rfl, rfl, rfl⟩, rfl, Or.inl (tb_g 1057 (by decide +kernel) rfl)⟩
theorem f_X12_110 : CkF RX12 110 12 41 "[I" true true := ⟨(RX12, TX12, 64), rfl, by decide, ⟨rfl, rfl, rfl⟩, rfl, Or.inl (tb_g 1058 (by decide +kernel) rfl)⟩
theorem f_X12_113 : CkF RX12 113 12 42 "[I" true true := ⟨(RX12, TX12, 64), rfl, by decide, ⟨rfl, rfl, rfl⟩, rfl, Or.inl (tb_g 1059 (by decide +kernel) rfl)⟩
theorem f_X12_274 : CkF RX12 274 12 43 "I" false false := ⟨(RX12, TX12, 64), rfl, by decide, ⟨rfl, rfl, rfl⟩, rfl, Or.inl (tb_g 1060 (by decide +kernel) rfl)⟩
theorem f_X12_307 : CkF RX12 307 12 44 "Z" false false := ⟨(RX12, TX12, 64), rfl, by decide, ⟨rfl, rfl, rfl⟩, rfl, Or.inl (tb_g 1061 (by decide +kernel) rfl)⟩
theorem f_X12_311 : CkF RX12 311 12 45 "I" false false := ⟨(RX12, TX12, 64), rfl, by decide, ⟨rfl, rfl, rfl⟩, rfl, Or.inl (tb_g 1062 (by decide +kernel) rfl)⟩
theorem f_X12_116 : CkF RX12 116 12 46 "[I" true true := ⟨(RX12, TX12, 64), rfl, by decide, ⟨rfl, rfl, rfl⟩, rfl, Or.inl (tb_g 1063 (by decide +kernel) rfl)⟩
theorem f_X12_119 : CkF RX12 119 12 47 "[Z" true true := ⟨(RX12, TX12, 64), rfl, by decide, ⟨rfl, rfl, rfl⟩, rfl, Or.inl (tb_g 1064 (by decide +kernel) rfl)⟩
theorem f_X12_122 : CkF RX12 122 12 48 "[I" true true := ⟨(RX12, TX12, 64), rfl, by decide, ⟨rfl, rfl, rfl⟩, rfl, Or.inl (tb_g 1065 (by decide +kernel) rfl)⟩
theorem f_X12_125 : CkF RX12 125 12 49 "[Z" true true := ⟨(RX12, TX12, 64), rfl, by decide, ⟨rfl, rfl, rfl⟩, rfl, Or.inl (tb_g 1066 (by decide +kernel) rfl)⟩
theorem f_X12_128 : CkF RX12 128 12 50 "[I" true true := ⟨(RX12, TX12, 64), rfl, by decide, ⟨rfl, rfl, rfl⟩, rfl, Or.inl (tb_g 1067 (by decide +kernel) rfl)⟩
theorem f_X12_131 : CkF RX12 131 12 51 "[Z" true true := ⟨(RX12, TX12, 64), rfl, by decide, ⟨rfl, rfl, rfl⟩, rfl, Or.inl (tb_g 1068 (by decide +kernel) rfl)⟩
theorem f_X12_134 : CkF RX12 134 12 52 "[Z" true true := ⟨(RX12, TX12, 64), rfl, by decide, ⟨rfl, rfl, rfl⟩, rfl, Or.inl (tb_g 1069 (by decide +kernel) rfl)⟩
theorem f_X12_137 : CkF RX12 137 12 53 "[I" true true := ⟨(RX12, TX12, 64), rfl, by decide, ⟨rfl, rfl, rfl⟩, rfl, Or.inl (tb_g 1070 (by decide +kernel) rfl)⟩
theorem f_X12_140 : CkF RX12 140 12 54 "[I" true true := ⟨(RX12, TX12, 64), rfl, by decide, ⟨rfl, rfl, rfl⟩, rfl, Or.inl (tb_g 1071 (by decide +kernel) rfl)⟩
theorem f_X12_143 : CkF RX12 143 12 55 "[I" true true := ⟨(RX12, TX12, 64), rfl, by decide, ⟨rfl, rfl, rfl⟩, rfl, Or.inl (tb_g 1072 (by decide +kernel) rfl)⟩
theorem f_X12_146 : CkF RX12 146 12 56 "[I" true true := ⟨(RX12, TX12, 64), rfl, by decide, ⟨rfl, rfl, rfl⟩, rfl, Or.inl (tb_g 1073 (by decide +kernel) rfl)⟩
theorem f_X12_149 : CkF RX12 149 12 57 "[I" true true := ⟨(RX12, TX12, 64), rfl, by decide, ⟨rfl, rfl, rfl⟩, rfl, Or.inl (tb_g 1074 (by decide +kernel) rfl)⟩
theorem f_X12_152 : CkF RX12 152 12 58 "[I" true true := ⟨(RX12, TX12, 64), rfl, by decide, ⟨rfl, rfl, rfl⟩, rfl, Or.inl (tb_g 1075 (by decide +kernel) rfl)⟩
theorem f_X12_317 : CkF RX12 317 12 59 "I" false false := ⟨(RX12, TX12, 64), rfl, by decide, ⟨rfl, rfl, rfl⟩, rfl, Or.inl (tb_g 1076 (by decide +kernel) rfl)⟩
theorem f_X12_155 : CkF RX12 155 12 60 "[I" true true := ⟨(RX12, TX12, 64), rfl, by decide, ⟨rfl, rfl, rfl⟩, rfl, Or.inl (tb_g 1077 (by decide +kernel) rfl)⟩
theorem f_X12_158 : CkF RX12 158 12 61 "[I" true true := ⟨(RX12, TX12, 64), rfl, by decide, ⟨rfl, rfl, rfl⟩, rfl, Or.inl (tb_g 1078 (by decide +kernel) rfl)⟩
theorem f_X12_161 : CkF RX12 161 12 62 "[I" true true := ⟨(RX12, TX12, 64), rfl, by decide, ⟨rfl, rfl, rfl⟩, rfl, Or.inl (tb_g 1079 (by decide +kernel) rfl)⟩
theorem f_X12_164 : CkF RX12 164 12 63 "[Z" true true := ⟨(RX12, TX12, 64), rfl, by decide, ⟨rfl, rfl, rfl⟩, rfl, Or.inl (tb_g 1080 (by decide +kernel) rfl)⟩
theorem k_X11_init : Cond.instanceMethod mX11_init.1 ∈ TBg := tb_g 131 (by decide +kernel) rfl
set_option maxRecDepth 20000 in
theorem q_X11_init : Cond.code mX11_init.1 mX11_init.2.1 mX11_init.2.2.1 mX11_init.2.2.2 ∈ TBg ∧ Cond.initialized mX11_init.1.cls ∈ TBg ∧ (mX11_init.1.cls ≠ "java/lang/invoke/MethodHandle" ∧ mX11_init.1.cls ≠ "java/lang/invoke/VarHandle" ∧ (parseMethodDescriptor mX11_init.1.desc).map (fun d => d.parameters.length) = some 0) := ⟨tb_g 132 rfl rfl, tb_g 111 (by decide +kernel) rfl, by decide +kernel⟩
theorem c_L_9 : CkM RL 9 mX11_init 0 := ⟨q_X11_init.1, q_X11_init.2.1, q_X11_init.2.2, Or.inl (tb_g 130 (by decide +kernel) rfl)⟩
set_option maxRecDepth 20000 in
theorem c_X11_1 : Cond.methodLink RX11 1 Lib.objectInit ∈ TBg ∧ Cond.instanceMethod Lib.objectInit ∈ TBg ∧ Cond.code Lib.objectInit ⟨#[0xb1]⟩ 1 none ∈ TBg := ⟨tb_g 133 (by decide +kernel) rfl, tb_g 134 (by decide +kernel) rfl, tb_g 135 rfl rfl⟩
theorem k_X4_init : Cond.instanceMethod mX4_init.1 ∈ TBg := tb_g 139 (by decide +kernel) rfl
set_option maxRecDepth 20000 in
theorem q_X4_init : Cond.code mX4_init.1 mX4_init.2.1 mX4_init.2.2.1 mX4_init.2.2.2 ∈ TBg ∧ Cond.initialized mX4_init.1.cls ∈ TBg ∧ (mX4_init.1.cls ≠ "java/lang/invoke/MethodHandle" ∧ mX4_init.1.cls ≠ "java/lang/invoke/VarHandle" ∧ (parseMethodDescriptor mX4_init.1.desc).map (fun d => d.parameters.length) = some 0) := ⟨tb_g 140 rfl rfl, tb_g 112 (by decide +kernel) rfl, by decide +kernel⟩
theorem c_X11_9 : CkM RX11 9 mX4_init 0 := ⟨q_X4_init.1, q_X4_init.2.1, q_X4_init.2.2, Or.inr ⟨"RiverSteamers", tb_n 138 (by decide +kernel) rfl⟩⟩
set_option maxRecDepth 20000 in
theorem c_X4_3 : Cond.methodLink RX4 3 Lib.objectInit ∈ TBg ∧ Cond.instanceMethod Lib.objectInit ∈ TBg ∧ Cond.code Lib.objectInit ⟨#[0xb1]⟩ 1 none ∈ TBg := ⟨tb_g 141 (by decide +kernel) rfl, tb_g 134 (by decide +kernel) rfl, tb_g 135 rfl rfl⟩
theorem k_J_fill : Cond.static mJ_fill.1 ∈ TBg := tb_g 155 (by decide +kernel) rfl
set_option maxRecDepth 20000 in
theorem q_J_fill : Cond.code mJ_fill.1 mJ_fill.2.1 mJ_fill.2.2.1 mJ_fill.2.2.2 ∈ TBg ∧ Cond.initialized mJ_fill.1.cls ∈ TBg ∧ (mJ_fill.1.cls ≠ "java/lang/invoke/MethodHandle" ∧ mJ_fill.1.cls ≠ "java/lang/invoke/VarHandle" ∧ (parseMethodDescriptor mJ_fill.1.desc).map (fun d => d.parameters.length) = some 2) := ⟨tb_g 156 rfl rfl, tb_g 113 (by decide +kernel) rfl, by decide +kernel⟩
theorem c_X4_80 : CkM RX4 80 mJ_fill 2 := ⟨q_J_fill.1, q_J_fill.2.1, q_J_fill.2.2, Or.inl (tb_g 154 (by decide +kernel) rfl)⟩
theorem k_X7_init : Cond.instanceMethod mX7_init.1 ∈ TBg := tb_g 159 (by decide +kernel) rfl
set_option maxRecDepth 20000 in
theorem q_X7_init : Cond.code mX7_init.1 mX7_init.2.1 mX7_init.2.2.1 mX7_init.2.2.2 ∈ TBg ∧ Cond.initialized mX7_init.1.cls ∈ TBg ∧ (mX7_init.1.cls ≠ "java/lang/invoke/MethodHandle" ∧ mX7_init.1.cls ≠ "java/lang/invoke/VarHandle" ∧ (parseMethodDescriptor mX7_init.1.desc).map (fun d => d.parameters.length) = some 0) := ⟨tb_g 160 rfl rfl, tb_g 114 (by decide +kernel) rfl, by decide +kernel⟩
theorem c_X4_86 : CkM RX4 86 mX7_init 0 := ⟨q_X7_init.1, q_X7_init.2.1, q_X7_init.2.2, Or.inr ⟨"RiverSteamers", tb_n 158 (by decide +kernel) rfl⟩⟩
set_option maxRecDepth 20000 in
theorem c_X7_3 : Cond.methodLink RX7 3 Lib.objectInit ∈ TBg ∧ Cond.instanceMethod Lib.objectInit ∈ TBg ∧ Cond.code Lib.objectInit ⟨#[0xb1]⟩ 1 none ∈ TBg := ⟨tb_g 161 (by decide +kernel) rfl, tb_g 134 (by decide +kernel) rfl, tb_g 135 rfl rfl⟩
theorem k_X3_init : Cond.instanceMethod mX3_init.1 ∈ TBg := tb_g 198 (by decide +kernel) rfl
set_option maxRecDepth 20000 in
theorem q_X3_init : Cond.code mX3_init.1 mX3_init.2.1 mX3_init.2.2.1 mX3_init.2.2.2 ∈ TBg ∧ Cond.initialized mX3_init.1.cls ∈ TBg ∧ (mX3_init.1.cls ≠ "java/lang/invoke/MethodHandle" ∧ mX3_init.1.cls ≠ "java/lang/invoke/VarHandle" ∧ (parseMethodDescriptor mX3_init.1.desc).map (fun d => d.parameters.length) = some 0) := ⟨tb_g 199 rfl rfl, tb_g 115 (by decide +kernel) rfl, by decide +kernel⟩
theorem c_X4_87 : CkM RX4 87 mX3_init 0 := ⟨q_X3_init.1, q_X3_init.2.1, q_X3_init.2.2, Or.inr ⟨"RiverSteamers", tb_n 197 (by decide +kernel) rfl⟩⟩
set_option maxRecDepth 20000 in
theorem c_X3_1 : Cond.methodLink RX3 1 Lib.objectInit ∈ TBg ∧ Cond.instanceMethod Lib.objectInit ∈ TBg ∧ Cond.code Lib.objectInit ⟨#[0xb1]⟩ 1 none ∈ TBg := ⟨tb_g 200 (by decide +kernel) rfl, tb_g 134 (by decide +kernel) rfl, tb_g 135 rfl rfl⟩
theorem k_X10_init : Cond.instanceMethod mX10_init.1 ∈ TBg := tb_g 204 (by decide +kernel) rfl
set_option maxRecDepth 20000 in
theorem q_X10_init : Cond.code mX10_init.1 mX10_init.2.1 mX10_init.2.2.1 mX10_init.2.2.2 ∈ TBg ∧ Cond.initialized mX10_init.1.cls ∈ TBg ∧ (mX10_init.1.cls ≠ "java/lang/invoke/MethodHandle" ∧ mX10_init.1.cls ≠ "java/lang/invoke/VarHandle" ∧ (parseMethodDescriptor mX10_init.1.desc).map (fun d => d.parameters.length) = some 0) := ⟨tb_g 205 rfl rfl, tb_g 116 (by decide +kernel) rfl, by decide +kernel⟩
theorem c_X3_15 : CkM RX3 15 mX10_init 0 := ⟨q_X10_init.1, q_X10_init.2.1, q_X10_init.2.2, Or.inr ⟨"RiverSteamers", tb_n 203 (by decide +kernel) rfl⟩⟩
set_option maxRecDepth 20000 in
theorem c_X10_3 : Cond.methodLink RX10 3 Lib.objectInit ∈ TBg ∧ Cond.instanceMethod Lib.objectInit ∈ TBg ∧ Cond.code Lib.objectInit ⟨#[0xb1]⟩ 1 none ∈ TBg := ⟨tb_g 206 (by decide +kernel) rfl, tb_g 134 (by decide +kernel) rfl, tb_g 135 rfl rfl⟩
theorem c_X10_18 : CkM RX10 18 mJ_fill 2 := ⟨q_J_fill.1, q_J_fill.2.1, q_J_fill.2.2, Or.inl (tb_g 207 (by decide +kernel) rfl)⟩
theorem k_X2_init : Cond.instanceMethod mX2_init.1 ∈ TBg := tb_g 229 (by decide +kernel) rfl
set_option maxRecDepth 20000 in
theorem q_X2_init : Cond.code mX2_init.1 mX2_init.2.1 mX2_init.2.2.1 mX2_init.2.2.2 ∈ TBg ∧ Cond.initialized mX2_init.1.cls ∈ TBg ∧ (mX2_init.1.cls ≠ "java/lang/invoke/MethodHandle" ∧ mX2_init.1.cls ≠ "java/lang/invoke/VarHandle" ∧ (parseMethodDescriptor mX2_init.1.desc).map (fun d => d.parameters.length) = some 0) := ⟨tb_g 230 rfl rfl, tb_g 117 (by decide +kernel) rfl, by decide +kernel⟩
theorem c_X4_88 : CkM RX4 88 mX2_init 0 := ⟨q_X2_init.1, q_X2_init.2.1, q_X2_init.2.2, Or.inr ⟨"RiverSteamers", tb_n 228 (by decide +kernel) rfl⟩⟩
set_option maxRecDepth 20000 in
theorem c_X2_3 : Cond.methodLink RX2 3 Lib.objectInit ∈ TBg ∧ Cond.instanceMethod Lib.objectInit ∈ TBg ∧ Cond.code Lib.objectInit ⟨#[0xb1]⟩ 1 none ∈ TBg := ⟨tb_g 231 (by decide +kernel) rfl, tb_g 134 (by decide +kernel) rfl, tb_g 135 rfl rfl⟩
theorem c_X2_41 : CkM RX2 41 mX10_init 0 := ⟨q_X10_init.1, q_X10_init.2.1, q_X10_init.2.2, Or.inr ⟨"RiverSteamers", tb_n 233 (by decide +kernel) rfl⟩⟩
theorem k_X1_init : Cond.instanceMethod mX1_init.1 ∈ TBg := tb_g 282 (by decide +kernel) rfl
set_option maxRecDepth 20000 in
theorem q_X1_init : Cond.code mX1_init.1 mX1_init.2.1 mX1_init.2.2.1 mX1_init.2.2.2 ∈ TBg ∧ Cond.initialized mX1_init.1.cls ∈ TBg ∧ (mX1_init.1.cls ≠ "java/lang/invoke/MethodHandle" ∧ mX1_init.1.cls ≠ "java/lang/invoke/VarHandle" ∧ (parseMethodDescriptor mX1_init.1.desc).map (fun d => d.parameters.length) = some 0) := ⟨tb_g 283 rfl rfl, tb_g 118 (by decide +kernel) rfl, by decide +kernel⟩
theorem c_X4_89 : CkM RX4 89 mX1_init 0 := ⟨q_X1_init.1, q_X1_init.2.1, q_X1_init.2.2, Or.inr ⟨"RiverSteamers", tb_n 281 (by decide +kernel) rfl⟩⟩
set_option maxRecDepth 20000 in
theorem c_X1_3 : Cond.methodLink RX1 3 Lib.objectInit ∈ TBg ∧ Cond.instanceMethod Lib.objectInit ∈ TBg ∧ Cond.code Lib.objectInit ⟨#[0xb1]⟩ 1 none ∈ TBg := ⟨tb_g 284 (by decide +kernel) rfl, tb_g 134 (by decide +kernel) rfl, tb_g 135 rfl rfl⟩
theorem k_X8_init : Cond.instanceMethod mX8_init.1 ∈ TBg := tb_g 310 (by decide +kernel) rfl
set_option maxRecDepth 20000 in
theorem q_X8_init : Cond.code mX8_init.1 mX8_init.2.1 mX8_init.2.2.1 mX8_init.2.2.2 ∈ TBg ∧ Cond.initialized mX8_init.1.cls ∈ TBg ∧ (mX8_init.1.cls ≠ "java/lang/invoke/MethodHandle" ∧ mX8_init.1.cls ≠ "java/lang/invoke/VarHandle" ∧ (parseMethodDescriptor mX8_init.1.desc).map (fun d => d.parameters.length) = some 0) := ⟨tb_g 311 rfl rfl, tb_g 119 (by decide +kernel) rfl, by decide +kernel⟩
theorem c_X4_90 : CkM RX4 90 mX8_init 0 := ⟨q_X8_init.1, q_X8_init.2.1, q_X8_init.2.2, Or.inr ⟨"RiverSteamers", tb_n 309 (by decide +kernel) rfl⟩⟩
set_option maxRecDepth 20000 in
theorem c_X8_1 : Cond.methodLink RX8 1 Lib.objectInit ∈ TBg ∧ Cond.instanceMethod Lib.objectInit ∈ TBg ∧ Cond.code Lib.objectInit ⟨#[0xb1]⟩ 1 none ∈ TBg := ⟨tb_g 312 (by decide +kernel) rfl, tb_g 134 (by decide +kernel) rfl, tb_g 135 rfl rfl⟩
theorem k_X5_init : Cond.instanceMethod mX5_init.1 ∈ TBg := tb_g 326 (by decide +kernel) rfl
set_option maxRecDepth 20000 in
theorem q_X5_init : Cond.code mX5_init.1 mX5_init.2.1 mX5_init.2.2.1 mX5_init.2.2.2 ∈ TBg ∧ Cond.initialized mX5_init.1.cls ∈ TBg ∧ (mX5_init.1.cls ≠ "java/lang/invoke/MethodHandle" ∧ mX5_init.1.cls ≠ "java/lang/invoke/VarHandle" ∧ (parseMethodDescriptor mX5_init.1.desc).map (fun d => d.parameters.length) = some 0) := ⟨tb_g 327 rfl rfl, tb_g 120 (by decide +kernel) rfl, by decide +kernel⟩
theorem c_X4_91 : CkM RX4 91 mX5_init 0 := ⟨q_X5_init.1, q_X5_init.2.1, q_X5_init.2.2, Or.inr ⟨"RiverSteamers", tb_n 325 (by decide +kernel) rfl⟩⟩
set_option maxRecDepth 20000 in
theorem c_X5_1 : Cond.methodLink RX5 1 Lib.objectInit ∈ TBg ∧ Cond.instanceMethod Lib.objectInit ∈ TBg ∧ Cond.code Lib.objectInit ⟨#[0xb1]⟩ 1 none ∈ TBg := ⟨tb_g 328 (by decide +kernel) rfl, tb_g 134 (by decide +kernel) rfl, tb_g 135 rfl rfl⟩
theorem k_X0_init : Cond.instanceMethod mX0_init.1 ∈ TBg := tb_g 414 (by decide +kernel) rfl
set_option maxRecDepth 20000 in
theorem q_X0_init : Cond.code mX0_init.1 mX0_init.2.1 mX0_init.2.2.1 mX0_init.2.2.2 ∈ TBg ∧ Cond.initialized mX0_init.1.cls ∈ TBg ∧ (mX0_init.1.cls ≠ "java/lang/invoke/MethodHandle" ∧ mX0_init.1.cls ≠ "java/lang/invoke/VarHandle" ∧ (parseMethodDescriptor mX0_init.1.desc).map (fun d => d.parameters.length) = some 0) := ⟨tb_g 415 rfl rfl, tb_g 121 (by decide +kernel) rfl, by decide +kernel⟩
theorem c_X11_34 : CkM RX11 34 mX0_init 0 := ⟨q_X0_init.1, q_X0_init.2.1, q_X0_init.2.2, Or.inr ⟨"RiverSteamers", tb_n 413 (by decide +kernel) rfl⟩⟩
set_option maxRecDepth 20000 in
theorem c_X0_3 : Cond.methodLink RX0 3 Lib.objectInit ∈ TBg ∧ Cond.instanceMethod Lib.objectInit ∈ TBg ∧ Cond.code Lib.objectInit ⟨#[0xb1]⟩ 1 none ∈ TBg := ⟨tb_g 416 (by decide +kernel) rfl, tb_g 134 (by decide +kernel) rfl, tb_g 135 rfl rfl⟩
theorem k_X9_init : Cond.instanceMethod mX9_init.1 ∈ TBg := tb_g 429 (by decide +kernel) rfl
set_option maxRecDepth 20000 in
theorem q_X9_init : Cond.code mX9_init.1 mX9_init.2.1 mX9_init.2.2.1 mX9_init.2.2.2 ∈ TBg ∧ Cond.initialized mX9_init.1.cls ∈ TBg ∧ (mX9_init.1.cls ≠ "java/lang/invoke/MethodHandle" ∧ mX9_init.1.cls ≠ "java/lang/invoke/VarHandle" ∧ (parseMethodDescriptor mX9_init.1.desc).map (fun d => d.parameters.length) = some 0) := ⟨tb_g 430 rfl rfl, tb_g 122 (by decide +kernel) rfl, by decide +kernel⟩
theorem c_X11_41 : CkM RX11 41 mX9_init 0 := ⟨q_X9_init.1, q_X9_init.2.1, q_X9_init.2.2, Or.inr ⟨"RiverSteamers", tb_n 428 (by decide +kernel) rfl⟩⟩
set_option maxRecDepth 20000 in
theorem c_X9_3 : Cond.methodLink RX9 3 Lib.objectInit ∈ TBg ∧ Cond.instanceMethod Lib.objectInit ∈ TBg ∧ Cond.code Lib.objectInit ⟨#[0xb1]⟩ 1 none ∈ TBg := ⟨tb_g 431 (by decide +kernel) rfl, tb_g 134 (by decide +kernel) rfl, tb_g 135 rfl rfl⟩
theorem k_X6_init : Cond.instanceMethod mX6_init.1 ∈ TBg := tb_g 450 (by decide +kernel) rfl
set_option maxRecDepth 20000 in
theorem q_X6_init : Cond.code mX6_init.1 mX6_init.2.1 mX6_init.2.2.1 mX6_init.2.2.2 ∈ TBg ∧ Cond.initialized mX6_init.1.cls ∈ TBg ∧ (mX6_init.1.cls ≠ "java/lang/invoke/MethodHandle" ∧ mX6_init.1.cls ≠ "java/lang/invoke/VarHandle" ∧ (parseMethodDescriptor mX6_init.1.desc).map (fun d => d.parameters.length) = some 0) := ⟨tb_g 451 rfl rfl, tb_g 123 (by decide +kernel) rfl, by decide +kernel⟩
theorem c_X11_50 : CkM RX11 50 mX6_init 0 := ⟨q_X6_init.1, q_X6_init.2.1, q_X6_init.2.2, Or.inr ⟨"RiverSteamers", tb_n 449 (by decide +kernel) rfl⟩⟩
set_option maxRecDepth 20000 in
theorem c_X6_3 : Cond.methodLink RX6 3 Lib.objectInit ∈ TBg ∧ Cond.instanceMethod Lib.objectInit ∈ TBg ∧ Cond.code Lib.objectInit ⟨#[0xb1]⟩ 1 none ∈ TBg := ⟨tb_g 452 (by decide +kernel) rfl, tb_g 134 (by decide +kernel) rfl, tb_g 135 rfl rfl⟩
theorem k_X11_stretch : Cond.instanceMethod mX11_stretch.1 ∈ TBg ∧ Cond.selects mX11_stretch.1.cls mX11_stretch.1 mX11_stretch.1 ∈ TBg := ⟨tb_g 491 (by decide +kernel) rfl, tb_g 492 (by decide +kernel) rfl⟩
set_option maxRecDepth 20000 in
theorem q_X11_stretch : Cond.code mX11_stretch.1 mX11_stretch.2.1 mX11_stretch.2.2.1 mX11_stretch.2.2.2 ∈ TBg ∧ Cond.initialized mX11_stretch.1.cls ∈ TBg ∧ (mX11_stretch.1.cls ≠ "java/lang/invoke/MethodHandle" ∧ mX11_stretch.1.cls ≠ "java/lang/invoke/VarHandle" ∧ (parseMethodDescriptor mX11_stretch.1.desc).map (fun d => d.parameters.length) = some 3) := ⟨tb_g 493 rfl rfl, tb_g 111 (by decide +kernel) rfl, by decide +kernel⟩
theorem c_L_13 : CkM RL 13 mX11_stretch 3 := ⟨q_X11_stretch.1, q_X11_stretch.2.1, q_X11_stretch.2.2, Or.inl (tb_g 490 (by decide +kernel) rfl)⟩
theorem k_X11_isWithin : Cond.static mX11_isWithin.1 ∈ TBg := tb_g 495 (by decide +kernel) rfl
set_option maxRecDepth 20000 in
theorem q_X11_isWithin : Cond.code mX11_isWithin.1 mX11_isWithin.2.1 mX11_isWithin.2.2.1 mX11_isWithin.2.2.2 ∈ TBg ∧ Cond.initialized mX11_isWithin.1.cls ∈ TBg ∧ (mX11_isWithin.1.cls ≠ "java/lang/invoke/MethodHandle" ∧ mX11_isWithin.1.cls ≠ "java/lang/invoke/VarHandle" ∧ (parseMethodDescriptor mX11_isWithin.1.desc).map (fun d => d.parameters.length) = some 3) := ⟨tb_g 496 rfl rfl, tb_g 111 (by decide +kernel) rfl, by decide +kernel⟩
theorem c_X11_51 : CkM RX11 51 mX11_isWithin 3 := ⟨q_X11_isWithin.1, q_X11_isWithin.2.1, q_X11_isWithin.2.2, Or.inl (tb_g 494 (by decide +kernel) rfl)⟩
theorem k_X11_refused : Cond.instanceMethod mX11_refused.1 ∈ TBg ∧ Cond.selects mX11_refused.1.cls mX11_refused.1 mX11_refused.1 ∈ TBg := ⟨tb_g 499 (by decide +kernel) rfl, tb_g 0 (by decide +kernel) rfl⟩
set_option maxRecDepth 20000 in
theorem q_X11_refused : Cond.code mX11_refused.1 mX11_refused.2.1 mX11_refused.2.2.1 mX11_refused.2.2.2 ∈ TBg ∧ Cond.initialized mX11_refused.1.cls ∈ TBg ∧ (mX11_refused.1.cls ≠ "java/lang/invoke/MethodHandle" ∧ mX11_refused.1.cls ≠ "java/lang/invoke/VarHandle" ∧ (parseMethodDescriptor mX11_refused.1.desc).map (fun d => d.parameters.length) = some 1) := ⟨tb_g 500 rfl rfl, tb_g 111 (by decide +kernel) rfl, by decide +kernel⟩
theorem c_X11_55 : CkM RX11 55 mX11_refused 1 := ⟨q_X11_refused.1, q_X11_refused.2.1, q_X11_refused.2.2, Or.inl (tb_g 497 (by decide +kernel) rfl)⟩
theorem k_X7_begin : Cond.instanceMethod mX7_begin.1 ∈ TBg ∧ Cond.selects mX7_begin.1.cls mX7_begin.1 mX7_begin.1 ∈ TBg := ⟨tb_g 503 (by decide +kernel) rfl, tb_g 1 (by decide +kernel) rfl⟩
set_option maxRecDepth 20000 in
theorem q_X7_begin : Cond.code mX7_begin.1 mX7_begin.2.1 mX7_begin.2.2.1 mX7_begin.2.2.2 ∈ TBg ∧ Cond.initialized mX7_begin.1.cls ∈ TBg ∧ (mX7_begin.1.cls ≠ "java/lang/invoke/MethodHandle" ∧ mX7_begin.1.cls ≠ "java/lang/invoke/VarHandle" ∧ (parseMethodDescriptor mX7_begin.1.desc).map (fun d => d.parameters.length) = some 4) := ⟨tb_g 504 rfl rfl, tb_g 114 (by decide +kernel) rfl, by decide +kernel⟩
theorem c_X11_66 : CkM RX11 66 mX7_begin 4 := ⟨q_X7_begin.1, q_X7_begin.2.1, q_X7_begin.2.2, Or.inr ⟨"RiverSteamers", tb_n 501 (by decide +kernel) rfl⟩⟩
theorem c_X7_32 : CkM RX7 32 mJ_fill 2 := ⟨q_J_fill.1, q_J_fill.2.1, q_J_fill.2.2, Or.inl (tb_g 505 (by decide +kernel) rfl)⟩
theorem k_X11_done : Cond.instanceMethod mX11_done.1 ∈ TBg ∧ Cond.selects mX11_done.1.cls mX11_done.1 mX11_done.1 ∈ TBg := ⟨tb_g 508 (by decide +kernel) rfl, tb_g 2 (by decide +kernel) rfl⟩
set_option maxRecDepth 20000 in
theorem q_X11_done : Cond.code mX11_done.1 mX11_done.2.1 mX11_done.2.2.1 mX11_done.2.2.2 ∈ TBg ∧ Cond.initialized mX11_done.1.cls ∈ TBg ∧ (mX11_done.1.cls ≠ "java/lang/invoke/MethodHandle" ∧ mX11_done.1.cls ≠ "java/lang/invoke/VarHandle" ∧ (parseMethodDescriptor mX11_done.1.desc).map (fun d => d.parameters.length) = some 1) := ⟨tb_g 509 rfl rfl, tb_g 111 (by decide +kernel) rfl, by decide +kernel⟩
theorem c_X11_72 : CkM RX11 72 mX11_done 1 := ⟨q_X11_done.1, q_X11_done.2.1, q_X11_done.2.2, Or.inl (tb_g 506 (by decide +kernel) rfl)⟩
theorem k_X11_gauge : Cond.instanceMethod mX11_gauge.1 ∈ TBg ∧ Cond.selects mX11_gauge.1.cls mX11_gauge.1 mX11_gauge.1 ∈ TBg := ⟨tb_g 511 (by decide +kernel) rfl, tb_g 512 (by decide +kernel) rfl⟩
set_option maxRecDepth 20000 in
theorem q_X11_gauge : Cond.code mX11_gauge.1 mX11_gauge.2.1 mX11_gauge.2.2.1 mX11_gauge.2.2.2 ∈ TBg ∧ Cond.initialized mX11_gauge.1.cls ∈ TBg ∧ (mX11_gauge.1.cls ≠ "java/lang/invoke/MethodHandle" ∧ mX11_gauge.1.cls ≠ "java/lang/invoke/VarHandle" ∧ (parseMethodDescriptor mX11_gauge.1.desc).map (fun d => d.parameters.length) = some 2) := ⟨tb_g 513 rfl rfl, tb_g 111 (by decide +kernel) rfl, by decide +kernel⟩
theorem c_L_18 : CkM RL 18 mX11_gauge 2 := ⟨q_X11_gauge.1, q_X11_gauge.2.1, q_X11_gauge.2.2, Or.inl (tb_g 510 (by decide +kernel) rfl)⟩
theorem k_X11_isDay : Cond.static mX11_isDay.1 ∈ TBg := tb_g 515 (by decide +kernel) rfl
set_option maxRecDepth 20000 in
theorem q_X11_isDay : Cond.code mX11_isDay.1 mX11_isDay.2.1 mX11_isDay.2.2.1 mX11_isDay.2.2.2 ∈ TBg ∧ Cond.initialized mX11_isDay.1.cls ∈ TBg ∧ (mX11_isDay.1.cls ≠ "java/lang/invoke/MethodHandle" ∧ mX11_isDay.1.cls ≠ "java/lang/invoke/VarHandle" ∧ (parseMethodDescriptor mX11_isDay.1.desc).map (fun d => d.parameters.length) = some 1) := ⟨tb_g 516 rfl rfl, tb_g 111 (by decide +kernel) rfl, by decide +kernel⟩
theorem c_X11_75 : CkM RX11 75 mX11_isDay 1 := ⟨q_X11_isDay.1, q_X11_isDay.2.1, q_X11_isDay.2.2, Or.inl (tb_g 514 (by decide +kernel) rfl)⟩
theorem k_X4_tellHeight : Cond.instanceMethod mX4_tellHeight.1 ∈ TBg ∧ Cond.selects mX4_tellHeight.1.cls mX4_tellHeight.1 mX4_tellHeight.1 ∈ TBg := ⟨tb_g 519 (by decide +kernel) rfl, tb_g 3 (by decide +kernel) rfl⟩
set_option maxRecDepth 20000 in
theorem q_X4_tellHeight : Cond.code mX4_tellHeight.1 mX4_tellHeight.2.1 mX4_tellHeight.2.2.1 mX4_tellHeight.2.2.2 ∈ TBg ∧ Cond.initialized mX4_tellHeight.1.cls ∈ TBg ∧ (mX4_tellHeight.1.cls ≠ "java/lang/invoke/MethodHandle" ∧ mX4_tellHeight.1.cls ≠ "java/lang/invoke/VarHandle" ∧ (parseMethodDescriptor mX4_tellHeight.1.desc).map (fun d => d.parameters.length) = some 2) := ⟨tb_g 520 rfl rfl, tb_g 112 (by decide +kernel) rfl, by decide +kernel⟩
theorem c_X11_79 : CkM RX11 79 mX4_tellHeight 2 := ⟨q_X4_tellHeight.1, q_X4_tellHeight.2.1, q_X4_tellHeight.2.2, Or.inr ⟨"RiverSteamers", tb_n 517 (by decide +kernel) rfl⟩⟩
theorem k_X11_shift : Cond.instanceMethod mX11_shift.1 ∈ TBg ∧ Cond.selects mX11_shift.1.cls mX11_shift.1 mX11_shift.1 ∈ TBg := ⟨tb_g 522 (by decide +kernel) rfl, tb_g 523 (by decide +kernel) rfl⟩
set_option maxRecDepth 20000 in
theorem q_X11_shift : Cond.code mX11_shift.1 mX11_shift.2.1 mX11_shift.2.2.1 mX11_shift.2.2.2 ∈ TBg ∧ Cond.initialized mX11_shift.1.cls ∈ TBg ∧ (mX11_shift.1.cls ≠ "java/lang/invoke/MethodHandle" ∧ mX11_shift.1.cls ≠ "java/lang/invoke/VarHandle" ∧ (parseMethodDescriptor mX11_shift.1.desc).map (fun d => d.parameters.length) = some 3) := ⟨tb_g 524 rfl rfl, tb_g 111 (by decide +kernel) rfl, by decide +kernel⟩
theorem c_L_23 : CkM RL 23 mX11_shift 3 := ⟨q_X11_shift.1, q_X11_shift.2.1, q_X11_shift.2.2, Or.inl (tb_g 521 (by decide +kernel) rfl)⟩
theorem k_X4_isStretch : Cond.instanceMethod mX4_isStretch.1 ∈ TBg ∧ Cond.selects mX4_isStretch.1.cls mX4_isStretch.1 mX4_isStretch.1 ∈ TBg := ⟨tb_g 527 (by decide +kernel) rfl, tb_g 4 (by decide +kernel) rfl⟩
set_option maxRecDepth 20000 in
theorem q_X4_isStretch : Cond.code mX4_isStretch.1 mX4_isStretch.2.1 mX4_isStretch.2.2.1 mX4_isStretch.2.2.2 ∈ TBg ∧ Cond.initialized mX4_isStretch.1.cls ∈ TBg ∧ (mX4_isStretch.1.cls ≠ "java/lang/invoke/MethodHandle" ∧ mX4_isStretch.1.cls ≠ "java/lang/invoke/VarHandle" ∧ (parseMethodDescriptor mX4_isStretch.1.desc).map (fun d => d.parameters.length) = some 1) := ⟨tb_g 528 rfl rfl, tb_g 112 (by decide +kernel) rfl, by decide +kernel⟩
theorem c_X11_86 : CkM RX11 86 mX4_isStretch 1 := ⟨q_X4_isStretch.1, q_X4_isStretch.2.1, q_X4_isStretch.2.2, Or.inr ⟨"RiverSteamers", tb_n 525 (by decide +kernel) rfl⟩⟩
theorem c_X4_121 : CkM RX4 121 mX11_isWithin 3 := ⟨q_X11_isWithin.1, q_X11_isWithin.2.1, q_X11_isWithin.2.2, Or.inr ⟨"RiverSteamers", tb_n 529 (by decide +kernel) rfl⟩⟩
theorem k_X11_isUnder : Cond.static mX11_isUnder.1 ∈ TBg := tb_g 531 (by decide +kernel) rfl
set_option maxRecDepth 20000 in
theorem q_X11_isUnder : Cond.code mX11_isUnder.1 mX11_isUnder.2.1 mX11_isUnder.2.2.1 mX11_isUnder.2.2.2 ∈ TBg ∧ Cond.initialized mX11_isUnder.1.cls ∈ TBg ∧ (mX11_isUnder.1.cls ≠ "java/lang/invoke/MethodHandle" ∧ mX11_isUnder.1.cls ≠ "java/lang/invoke/VarHandle" ∧ (parseMethodDescriptor mX11_isUnder.1.desc).map (fun d => d.parameters.length) = some 2) := ⟨tb_g 532 rfl rfl, tb_g 111 (by decide +kernel) rfl, by decide +kernel⟩
theorem c_X11_92 : CkM RX11 92 mX11_isUnder 2 := ⟨q_X11_isUnder.1, q_X11_isUnder.2.1, q_X11_isUnder.2.2, Or.inl (tb_g 530 (by decide +kernel) rfl)⟩
theorem k_X11_cold : Cond.instanceMethod mX11_cold.1 ∈ TBg ∧ Cond.selects mX11_cold.1.cls mX11_cold.1 mX11_cold.1 ∈ TBg := ⟨tb_g 536 (by decide +kernel) rfl, tb_g 537 (by decide +kernel) rfl⟩
set_option maxRecDepth 20000 in
theorem q_X11_cold : Cond.code mX11_cold.1 mX11_cold.2.1 mX11_cold.2.2.1 mX11_cold.2.2.2 ∈ TBg ∧ Cond.initialized mX11_cold.1.cls ∈ TBg ∧ (mX11_cold.1.cls ≠ "java/lang/invoke/MethodHandle" ∧ mX11_cold.1.cls ≠ "java/lang/invoke/VarHandle" ∧ (parseMethodDescriptor mX11_cold.1.desc).map (fun d => d.parameters.length) = some 2) := ⟨tb_g 538 rfl rfl, tb_g 111 (by decide +kernel) rfl, by decide +kernel⟩
theorem c_L_27 : CkM RL 27 mX11_cold 2 := ⟨q_X11_cold.1, q_X11_cold.2.1, q_X11_cold.2.2, Or.inl (tb_g 535 (by decide +kernel) rfl)⟩
theorem k_X11_light : Cond.instanceMethod mX11_light.1 ∈ TBg ∧ Cond.selects mX11_light.1.cls mX11_light.1 mX11_light.1 ∈ TBg := ⟨tb_g 540 (by decide +kernel) rfl, tb_g 541 (by decide +kernel) rfl⟩
set_option maxRecDepth 20000 in
theorem q_X11_light : Cond.code mX11_light.1 mX11_light.2.1 mX11_light.2.2.1 mX11_light.2.2.2 ∈ TBg ∧ Cond.initialized mX11_light.1.cls ∈ TBg ∧ (mX11_light.1.cls ≠ "java/lang/invoke/MethodHandle" ∧ mX11_light.1.cls ≠ "java/lang/invoke/VarHandle" ∧ (parseMethodDescriptor mX11_light.1.desc).map (fun d => d.parameters.length) = some 2) := ⟨tb_g 542 rfl rfl, tb_g 111 (by decide +kernel) rfl, by decide +kernel⟩
theorem c_L_32 : CkM RL 32 mX11_light 2 := ⟨q_X11_light.1, q_X11_light.2.1, q_X11_light.2.2, Or.inl (tb_g 539 (by decide +kernel) rfl)⟩
theorem k_X11_boat : Cond.instanceMethod mX11_boat.1 ∈ TBg ∧ Cond.selects mX11_boat.1.cls mX11_boat.1 mX11_boat.1 ∈ TBg := ⟨tb_g 544 (by decide +kernel) rfl, tb_g 545 (by decide +kernel) rfl⟩
set_option maxRecDepth 20000 in
theorem q_X11_boat : Cond.code mX11_boat.1 mX11_boat.2.1 mX11_boat.2.2.1 mX11_boat.2.2.2 ∈ TBg ∧ Cond.initialized mX11_boat.1.cls ∈ TBg ∧ (mX11_boat.1.cls ≠ "java/lang/invoke/MethodHandle" ∧ mX11_boat.1.cls ≠ "java/lang/invoke/VarHandle" ∧ (parseMethodDescriptor mX11_boat.1.desc).map (fun d => d.parameters.length) = some 4) := ⟨tb_g 546 rfl rfl, tb_g 111 (by decide +kernel) rfl, by decide +kernel⟩
theorem c_L_36 : CkM RL 36 mX11_boat 4 := ⟨q_X11_boat.1, q_X11_boat.2.1, q_X11_boat.2.2, Or.inl (tb_g 543 (by decide +kernel) rfl)⟩
theorem k_X4_isLanding : Cond.instanceMethod mX4_isLanding.1 ∈ TBg ∧ Cond.selects mX4_isLanding.1.cls mX4_isLanding.1 mX4_isLanding.1 ∈ TBg := ⟨tb_g 549 (by decide +kernel) rfl, tb_g 5 (by decide +kernel) rfl⟩
set_option maxRecDepth 20000 in
theorem q_X4_isLanding : Cond.code mX4_isLanding.1 mX4_isLanding.2.1 mX4_isLanding.2.2.1 mX4_isLanding.2.2.2 ∈ TBg ∧ Cond.initialized mX4_isLanding.1.cls ∈ TBg ∧ (mX4_isLanding.1.cls ≠ "java/lang/invoke/MethodHandle" ∧ mX4_isLanding.1.cls ≠ "java/lang/invoke/VarHandle" ∧ (parseMethodDescriptor mX4_isLanding.1.desc).map (fun d => d.parameters.length) = some 1) := ⟨tb_g 550 rfl rfl, tb_g 112 (by decide +kernel) rfl, by decide +kernel⟩
theorem c_X11_107 : CkM RX11 107 mX4_isLanding 1 := ⟨q_X4_isLanding.1, q_X4_isLanding.2.1, q_X4_isLanding.2.2, Or.inr ⟨"RiverSteamers", tb_n 547 (by decide +kernel) rfl⟩⟩
theorem k_X2_begin : Cond.instanceMethod mX2_begin.1 ∈ TBg ∧ Cond.selects mX2_begin.1.cls mX2_begin.1 mX2_begin.1 ∈ TBg := ⟨tb_g 553 (by decide +kernel) rfl, tb_g 6 (by decide +kernel) rfl⟩
set_option maxRecDepth 20000 in
theorem q_X2_begin : Cond.code mX2_begin.1 mX2_begin.2.1 mX2_begin.2.2.1 mX2_begin.2.2.2 ∈ TBg ∧ Cond.initialized mX2_begin.1.cls ∈ TBg ∧ (mX2_begin.1.cls ≠ "java/lang/invoke/MethodHandle" ∧ mX2_begin.1.cls ≠ "java/lang/invoke/VarHandle" ∧ (parseMethodDescriptor mX2_begin.1.desc).map (fun d => d.parameters.length) = some 4) := ⟨tb_g 554 rfl rfl, tb_g 117 (by decide +kernel) rfl, by decide +kernel⟩
theorem c_X11_117 : CkM RX11 117 mX2_begin 4 := ⟨q_X2_begin.1, q_X2_begin.2.1, q_X2_begin.2.2, Or.inr ⟨"RiverSteamers", tb_n 551 (by decide +kernel) rfl⟩⟩
theorem k_X10_forgetAll : Cond.instanceMethod mX10_forgetAll.1 ∈ TBg ∧ Cond.selects mX10_forgetAll.1.cls mX10_forgetAll.1 mX10_forgetAll.1 ∈ TBg := ⟨tb_g 557 (by decide +kernel) rfl, tb_g 7 (by decide +kernel) rfl⟩
set_option maxRecDepth 20000 in
theorem q_X10_forgetAll : Cond.code mX10_forgetAll.1 mX10_forgetAll.2.1 mX10_forgetAll.2.2.1 mX10_forgetAll.2.2.2 ∈ TBg ∧ Cond.initialized mX10_forgetAll.1.cls ∈ TBg ∧ (mX10_forgetAll.1.cls ≠ "java/lang/invoke/MethodHandle" ∧ mX10_forgetAll.1.cls ≠ "java/lang/invoke/VarHandle" ∧ (parseMethodDescriptor mX10_forgetAll.1.desc).map (fun d => d.parameters.length) = some 0) := ⟨tb_g 558 rfl rfl, tb_g 116 (by decide +kernel) rfl, by decide +kernel⟩
theorem c_X2_46 : CkM RX2 46 mX10_forgetAll 0 := ⟨q_X10_forgetAll.1, q_X10_forgetAll.2.1, q_X10_forgetAll.2.2, Or.inr ⟨"RiverSteamers", tb_n 555 (by decide +kernel) rfl⟩⟩
theorem k_X11_bale : Cond.instanceMethod mX11_bale.1 ∈ TBg ∧ Cond.selects mX11_bale.1.cls mX11_bale.1 mX11_bale.1 ∈ TBg := ⟨tb_g 560 (by decide +kernel) rfl, tb_g 561 (by decide +kernel) rfl⟩
set_option maxRecDepth 20000 in
theorem q_X11_bale : Cond.code mX11_bale.1 mX11_bale.2.1 mX11_bale.2.2.1 mX11_bale.2.2.2 ∈ TBg ∧ Cond.initialized mX11_bale.1.cls ∈ TBg ∧ (mX11_bale.1.cls ≠ "java/lang/invoke/MethodHandle" ∧ mX11_bale.1.cls ≠ "java/lang/invoke/VarHandle" ∧ (parseMethodDescriptor mX11_bale.1.desc).map (fun d => d.parameters.length) = some 4) := ⟨tb_g 562 rfl rfl, tb_g 111 (by decide +kernel) rfl, by decide +kernel⟩
theorem c_L_41 : CkM RL 41 mX11_bale 4 := ⟨q_X11_bale.1, q_X11_bale.2.1, q_X11_bale.2.2, Or.inl (tb_g 559 (by decide +kernel) rfl)⟩
theorem k_X4_isWay : Cond.instanceMethod mX4_isWay.1 ∈ TBg ∧ Cond.selects mX4_isWay.1.cls mX4_isWay.1 mX4_isWay.1 ∈ TBg := ⟨tb_g 565 (by decide +kernel) rfl, tb_g 8 (by decide +kernel) rfl⟩
set_option maxRecDepth 20000 in
theorem q_X4_isWay : Cond.code mX4_isWay.1 mX4_isWay.2.1 mX4_isWay.2.2.1 mX4_isWay.2.2.2 ∈ TBg ∧ Cond.initialized mX4_isWay.1.cls ∈ TBg ∧ (mX4_isWay.1.cls ≠ "java/lang/invoke/MethodHandle" ∧ mX4_isWay.1.cls ≠ "java/lang/invoke/VarHandle" ∧ (parseMethodDescriptor mX4_isWay.1.desc).map (fun d => d.parameters.length) = some 2) := ⟨tb_g 566 rfl rfl, tb_g 112 (by decide +kernel) rfl, by decide +kernel⟩
theorem c_X11_120 : CkM RX11 120 mX4_isWay 2 := ⟨q_X4_isWay.1, q_X4_isWay.2.1, q_X4_isWay.2.2, Or.inr ⟨"RiverSteamers", tb_n 563 (by decide +kernel) rfl⟩⟩
theorem c_X4_125 : CkM RX4 125 mX4_isLanding 1 := ⟨q_X4_isLanding.1, q_X4_isLanding.2.1, q_X4_isLanding.2.2, Or.inl (tb_g 567 (by decide +kernel) rfl)⟩
theorem k_X1_begin : Cond.instanceMethod mX1_begin.1 ∈ TBg ∧ Cond.selects mX1_begin.1.cls mX1_begin.1 mX1_begin.1 ∈ TBg := ⟨tb_g 570 (by decide +kernel) rfl, tb_g 9 (by decide +kernel) rfl⟩
set_option maxRecDepth 20000 in
theorem q_X1_begin : Cond.code mX1_begin.1 mX1_begin.2.1 mX1_begin.2.2.1 mX1_begin.2.2.2 ∈ TBg ∧ Cond.initialized mX1_begin.1.cls ∈ TBg ∧ (mX1_begin.1.cls ≠ "java/lang/invoke/MethodHandle" ∧ mX1_begin.1.cls ≠ "java/lang/invoke/VarHandle" ∧ (parseMethodDescriptor mX1_begin.1.desc).map (fun d => d.parameters.length) = some 4) := ⟨tb_g 571 rfl rfl, tb_g 118 (by decide +kernel) rfl, by decide +kernel⟩
theorem c_X11_130 : CkM RX11 130 mX1_begin 4 := ⟨q_X1_begin.1, q_X1_begin.2.1, q_X1_begin.2.2, Or.inr ⟨"RiverSteamers", tb_n 568 (by decide +kernel) rfl⟩⟩
theorem k_X11_lade : Cond.instanceMethod mX11_lade.1 ∈ TBg ∧ Cond.selects mX11_lade.1.cls mX11_lade.1 mX11_lade.1 ∈ TBg := ⟨tb_g 573 (by decide +kernel) rfl, tb_g 574 (by decide +kernel) rfl⟩
set_option maxRecDepth 20000 in
theorem q_X11_lade : Cond.code mX11_lade.1 mX11_lade.2.1 mX11_lade.2.2.1 mX11_lade.2.2.2 ∈ TBg ∧ Cond.initialized mX11_lade.1.cls ∈ TBg ∧ (mX11_lade.1.cls ≠ "java/lang/invoke/MethodHandle" ∧ mX11_lade.1.cls ≠ "java/lang/invoke/VarHandle" ∧ (parseMethodDescriptor mX11_lade.1.desc).map (fun d => d.parameters.length) = some 2) := ⟨tb_g 575 rfl rfl, tb_g 111 (by decide +kernel) rfl, by decide +kernel⟩
theorem c_L_45 : CkM RL 45 mX11_lade 2 := ⟨q_X11_lade.1, q_X11_lade.2.1, q_X11_lade.2.2, Or.inl (tb_g 572 (by decide +kernel) rfl)⟩
theorem k_X4_isBale : Cond.instanceMethod mX4_isBale.1 ∈ TBg ∧ Cond.selects mX4_isBale.1.cls mX4_isBale.1 mX4_isBale.1 ∈ TBg := ⟨tb_g 578 (by decide +kernel) rfl, tb_g 10 (by decide +kernel) rfl⟩
set_option maxRecDepth 20000 in
theorem q_X4_isBale : Cond.code mX4_isBale.1 mX4_isBale.2.1 mX4_isBale.2.2.1 mX4_isBale.2.2.2 ∈ TBg ∧ Cond.initialized mX4_isBale.1.cls ∈ TBg ∧ (mX4_isBale.1.cls ≠ "java/lang/invoke/MethodHandle" ∧ mX4_isBale.1.cls ≠ "java/lang/invoke/VarHandle" ∧ (parseMethodDescriptor mX4_isBale.1.desc).map (fun d => d.parameters.length) = some 1) := ⟨tb_g 579 rfl rfl, tb_g 112 (by decide +kernel) rfl, by decide +kernel⟩
theorem c_X11_133 : CkM RX11 133 mX4_isBale 1 := ⟨q_X4_isBale.1, q_X4_isBale.2.1, q_X4_isBale.2.2, Or.inr ⟨"RiverSteamers", tb_n 576 (by decide +kernel) rfl⟩⟩
theorem k_X4_isBoat : Cond.instanceMethod mX4_isBoat.1 ∈ TBg ∧ Cond.selects mX4_isBoat.1.cls mX4_isBoat.1 mX4_isBoat.1 ∈ TBg := ⟨tb_g 582 (by decide +kernel) rfl, tb_g 11 (by decide +kernel) rfl⟩
set_option maxRecDepth 20000 in
theorem q_X4_isBoat : Cond.code mX4_isBoat.1 mX4_isBoat.2.1 mX4_isBoat.2.2.1 mX4_isBoat.2.2.2 ∈ TBg ∧ Cond.initialized mX4_isBoat.1.cls ∈ TBg ∧ (mX4_isBoat.1.cls ≠ "java/lang/invoke/MethodHandle" ∧ mX4_isBoat.1.cls ≠ "java/lang/invoke/VarHandle" ∧ (parseMethodDescriptor mX4_isBoat.1.desc).map (fun d => d.parameters.length) = some 1) := ⟨tb_g 583 rfl rfl, tb_g 112 (by decide +kernel) rfl, by decide +kernel⟩
theorem c_X11_136 : CkM RX11 136 mX4_isBoat 1 := ⟨q_X4_isBoat.1, q_X4_isBoat.2.1, q_X4_isBoat.2.2, Or.inr ⟨"RiverSteamers", tb_n 580 (by decide +kernel) rfl⟩⟩
theorem k_X2_draught : Cond.instanceMethod mX2_draught.1 ∈ TBg ∧ Cond.selects mX2_draught.1.cls mX2_draught.1 mX2_draught.1 ∈ TBg := ⟨tb_g 586 (by decide +kernel) rfl, tb_g 12 (by decide +kernel) rfl⟩
set_option maxRecDepth 20000 in
theorem q_X2_draught : Cond.code mX2_draught.1 mX2_draught.2.1 mX2_draught.2.2.1 mX2_draught.2.2.2 ∈ TBg ∧ Cond.initialized mX2_draught.1.cls ∈ TBg ∧ (mX2_draught.1.cls ≠ "java/lang/invoke/MethodHandle" ∧ mX2_draught.1.cls ≠ "java/lang/invoke/VarHandle" ∧ (parseMethodDescriptor mX2_draught.1.desc).map (fun d => d.parameters.length) = some 0) := ⟨tb_g 587 rfl rfl, tb_g 117 (by decide +kernel) rfl, by decide +kernel⟩
theorem c_X11_156 : CkM RX11 156 mX2_draught 0 := ⟨q_X2_draught.1, q_X2_draught.2.1, q_X2_draught.2.2, Or.inr ⟨"RiverSteamers", tb_n 584 (by decide +kernel) rfl⟩⟩
theorem k_X2_draughtWith : Cond.instanceMethod mX2_draughtWith.1 ∈ TBg ∧ Cond.selects mX2_draughtWith.1.cls mX2_draughtWith.1 mX2_draughtWith.1 ∈ TBg := ⟨tb_g 590 (by decide +kernel) rfl, tb_g 13 (by decide +kernel) rfl⟩
set_option maxRecDepth 20000 in
theorem q_X2_draughtWith : Cond.code mX2_draughtWith.1 mX2_draughtWith.2.1 mX2_draughtWith.2.2.1 mX2_draughtWith.2.2.2 ∈ TBg ∧ Cond.initialized mX2_draughtWith.1.cls ∈ TBg ∧ (mX2_draughtWith.1.cls ≠ "java/lang/invoke/MethodHandle" ∧ mX2_draughtWith.1.cls ≠ "java/lang/invoke/VarHandle" ∧ (parseMethodDescriptor mX2_draughtWith.1.desc).map (fun d => d.parameters.length) = some 1) := ⟨tb_g 591 rfl rfl, tb_g 117 (by decide +kernel) rfl, by decide +kernel⟩
theorem c_X2_53 : CkM RX2 53 mX2_draughtWith 1 := ⟨q_X2_draughtWith.1, q_X2_draughtWith.2.1, q_X2_draughtWith.2.2, Or.inl (tb_g 588 (by decide +kernel) rfl)⟩
theorem k_X11_land : Cond.instanceMethod mX11_land.1 ∈ TBg ∧ Cond.selects mX11_land.1.cls mX11_land.1 mX11_land.1 ∈ TBg := ⟨tb_g 593 (by decide +kernel) rfl, tb_g 594 (by decide +kernel) rfl⟩
set_option maxRecDepth 20000 in
theorem q_X11_land : Cond.code mX11_land.1 mX11_land.2.1 mX11_land.2.2.1 mX11_land.2.2.2 ∈ TBg ∧ Cond.initialized mX11_land.1.cls ∈ TBg ∧ (mX11_land.1.cls ≠ "java/lang/invoke/MethodHandle" ∧ mX11_land.1.cls ≠ "java/lang/invoke/VarHandle" ∧ (parseMethodDescriptor mX11_land.1.desc).map (fun d => d.parameters.length) = some 1) := ⟨tb_g 595 rfl rfl, tb_g 111 (by decide +kernel) rfl, by decide +kernel⟩
theorem c_L_49 : CkM RL 49 mX11_land 1 := ⟨q_X11_land.1, q_X11_land.2.1, q_X11_land.2.2, Or.inl (tb_g 592 (by decide +kernel) rfl)⟩
theorem k_X4_carrierOf : Cond.instanceMethod mX4_carrierOf.1 ∈ TBg ∧ Cond.selects mX4_carrierOf.1.cls mX4_carrierOf.1 mX4_carrierOf.1 ∈ TBg := ⟨tb_g 598 (by decide +kernel) rfl, tb_g 14 (by decide +kernel) rfl⟩
set_option maxRecDepth 20000 in
theorem q_X4_carrierOf : Cond.code mX4_carrierOf.1 mX4_carrierOf.2.1 mX4_carrierOf.2.2.1 mX4_carrierOf.2.2.2 ∈ TBg ∧ Cond.initialized mX4_carrierOf.1.cls ∈ TBg ∧ (mX4_carrierOf.1.cls ≠ "java/lang/invoke/MethodHandle" ∧ mX4_carrierOf.1.cls ≠ "java/lang/invoke/VarHandle" ∧ (parseMethodDescriptor mX4_carrierOf.1.desc).map (fun d => d.parameters.length) = some 1) := ⟨tb_g 599 rfl rfl, tb_g 112 (by decide +kernel) rfl, by decide +kernel⟩
theorem c_X11_160 : CkM RX11 160 mX4_carrierOf 1 := ⟨q_X4_carrierOf.1, q_X4_carrierOf.2.1, q_X4_carrierOf.2.2, Or.inr ⟨"RiverSteamers", tb_n 596 (by decide +kernel) rfl⟩⟩
theorem c_X4_222 : CkM RX4 222 mX4_isBoat 1 := ⟨q_X4_isBoat.1, q_X4_isBoat.2.1, q_X4_isBoat.2.2, Or.inl (tb_g 600 (by decide +kernel) rfl)⟩
theorem k_X11_lose : Cond.instanceMethod mX11_lose.1 ∈ TBg ∧ Cond.selects mX11_lose.1.cls mX11_lose.1 mX11_lose.1 ∈ TBg := ⟨tb_g 602 (by decide +kernel) rfl, tb_g 603 (by decide +kernel) rfl⟩
set_option maxRecDepth 20000 in
theorem q_X11_lose : Cond.code mX11_lose.1 mX11_lose.2.1 mX11_lose.2.2.1 mX11_lose.2.2.2 ∈ TBg ∧ Cond.initialized mX11_lose.1.cls ∈ TBg ∧ (mX11_lose.1.cls ≠ "java/lang/invoke/MethodHandle" ∧ mX11_lose.1.cls ≠ "java/lang/invoke/VarHandle" ∧ (parseMethodDescriptor mX11_lose.1.desc).map (fun d => d.parameters.length) = some 1) := ⟨tb_g 604 rfl rfl, tb_g 111 (by decide +kernel) rfl, by decide +kernel⟩
theorem c_L_54 : CkM RL 54 mX11_lose 1 := ⟨q_X11_lose.1, q_X11_lose.2.1, q_X11_lose.2.2, Or.inl (tb_g 601 (by decide +kernel) rfl)⟩
theorem k_X11_leave : Cond.instanceMethod mX11_leave.1 ∈ TBg ∧ Cond.selects mX11_leave.1.cls mX11_leave.1 mX11_leave.1 ∈ TBg := ⟨tb_g 606 (by decide +kernel) rfl, tb_g 607 (by decide +kernel) rfl⟩
set_option maxRecDepth 20000 in
theorem q_X11_leave : Cond.code mX11_leave.1 mX11_leave.2.1 mX11_leave.2.2.1 mX11_leave.2.2.2 ∈ TBg ∧ Cond.initialized mX11_leave.1.cls ∈ TBg ∧ (mX11_leave.1.cls ≠ "java/lang/invoke/MethodHandle" ∧ mX11_leave.1.cls ≠ "java/lang/invoke/VarHandle" ∧ (parseMethodDescriptor mX11_leave.1.desc).map (fun d => d.parameters.length) = some 2) := ⟨tb_g 608 rfl rfl, tb_g 111 (by decide +kernel) rfl, by decide +kernel⟩
theorem c_L_58 : CkM RL 58 mX11_leave 2 := ⟨q_X11_leave.1, q_X11_leave.2.1, q_X11_leave.2.2, Or.inl (tb_g 605 (by decide +kernel) rfl)⟩
theorem k_X4_whyNot : Cond.instanceMethod mX4_whyNot.1 ∈ TBg ∧ Cond.selects mX4_whyNot.1.cls mX4_whyNot.1 mX4_whyNot.1 ∈ TBg := ⟨tb_g 611 (by decide +kernel) rfl, tb_g 15 (by decide +kernel) rfl⟩
set_option maxRecDepth 20000 in
theorem q_X4_whyNot : Cond.code mX4_whyNot.1 mX4_whyNot.2.1 mX4_whyNot.2.2.1 mX4_whyNot.2.2.2 ∈ TBg ∧ Cond.initialized mX4_whyNot.1.cls ∈ TBg ∧ (mX4_whyNot.1.cls ≠ "java/lang/invoke/MethodHandle" ∧ mX4_whyNot.1.cls ≠ "java/lang/invoke/VarHandle" ∧ (parseMethodDescriptor mX4_whyNot.1.desc).map (fun d => d.parameters.length) = some 2) := ⟨tb_g 612 rfl rfl, tb_g 112 (by decide +kernel) rfl, by decide +kernel⟩
theorem c_X11_173 : CkM RX11 173 mX4_whyNot 2 := ⟨q_X4_whyNot.1, q_X4_whyNot.2.1, q_X4_whyNot.2.2, Or.inr ⟨"RiverSteamers", tb_n 609 (by decide +kernel) rfl⟩⟩
theorem k_X2_stretchToward : Cond.instanceMethod mX2_stretchToward.1 ∈ TBg ∧ Cond.selects mX2_stretchToward.1.cls mX2_stretchToward.1 mX2_stretchToward.1 ∈ TBg := ⟨tb_g 615 (by decide +kernel) rfl, tb_g 16 (by decide +kernel) rfl⟩
set_option maxRecDepth 20000 in
theorem q_X2_stretchToward : Cond.code mX2_stretchToward.1 mX2_stretchToward.2.1 mX2_stretchToward.2.2.1 mX2_stretchToward.2.2.2 ∈ TBg ∧ Cond.initialized mX2_stretchToward.1.cls ∈ TBg ∧ (mX2_stretchToward.1.cls ≠ "java/lang/invoke/MethodHandle" ∧ mX2_stretchToward.1.cls ≠ "java/lang/invoke/VarHandle" ∧ (parseMethodDescriptor mX2_stretchToward.1.desc).map (fun d => d.parameters.length) = some 1) := ⟨tb_g 616 rfl rfl, tb_g 117 (by decide +kernel) rfl, by decide +kernel⟩
theorem c_X4_163 : CkM RX4 163 mX2_stretchToward 1 := ⟨q_X2_stretchToward.1, q_X2_stretchToward.2.1, q_X2_stretchToward.2.2, Or.inr ⟨"RiverSteamers", tb_n 613 (by decide +kernel) rfl⟩⟩
theorem c_X4_167 : CkM RX4 167 mX4_isStretch 1 := ⟨q_X4_isStretch.1, q_X4_isStretch.2.1, q_X4_isStretch.2.2, Or.inl (tb_g 617 (by decide +kernel) rfl)⟩
theorem k_X10_isKnown : Cond.instanceMethod mX10_isKnown.1 ∈ TBg ∧ Cond.selects mX10_isKnown.1.cls mX10_isKnown.1 mX10_isKnown.1 ∈ TBg := ⟨tb_g 620 (by decide +kernel) rfl, tb_g 17 (by decide +kernel) rfl⟩
set_option maxRecDepth 20000 in
theorem q_X10_isKnown : Cond.code mX10_isKnown.1 mX10_isKnown.2.1 mX10_isKnown.2.2.1 mX10_isKnown.2.2.2 ∈ TBg ∧ Cond.initialized mX10_isKnown.1.cls ∈ TBg ∧ (mX10_isKnown.1.cls ≠ "java/lang/invoke/MethodHandle" ∧ mX10_isKnown.1.cls ≠ "java/lang/invoke/VarHandle" ∧ (parseMethodDescriptor mX10_isKnown.1.desc).map (fun d => d.parameters.length) = some 1) := ⟨tb_g 621 rfl rfl, tb_g 116 (by decide +kernel) rfl, by decide +kernel⟩
theorem c_X4_174 : CkM RX4 174 mX10_isKnown 1 := ⟨q_X10_isKnown.1, q_X10_isKnown.2.1, q_X10_isKnown.2.2, Or.inr ⟨"RiverSteamers", tb_n 618 (by decide +kernel) rfl⟩⟩
theorem c_X4_182 : CkM RX4 182 mX2_draught 0 := ⟨q_X2_draught.1, q_X2_draught.2.1, q_X2_draught.2.2, Or.inr ⟨"RiverSteamers", tb_n 622 (by decide +kernel) rfl⟩⟩
theorem k_X4_longNow : Cond.instanceMethod mX4_longNow.1 ∈ TBg ∧ Cond.selects mX4_longNow.1.cls mX4_longNow.1 mX4_longNow.1 ∈ TBg := ⟨tb_g 625 (by decide +kernel) rfl, tb_g 18 (by decide +kernel) rfl⟩
set_option maxRecDepth 20000 in
theorem q_X4_longNow : Cond.code mX4_longNow.1 mX4_longNow.2.1 mX4_longNow.2.2.1 mX4_longNow.2.2.2 ∈ TBg ∧ Cond.initialized mX4_longNow.1.cls ∈ TBg ∧ (mX4_longNow.1.cls ≠ "java/lang/invoke/MethodHandle" ∧ mX4_longNow.1.cls ≠ "java/lang/invoke/VarHandle" ∧ (parseMethodDescriptor mX4_longNow.1.desc).map (fun d => d.parameters.length) = some 1) := ⟨tb_g 626 rfl rfl, tb_g 112 (by decide +kernel) rfl, by decide +kernel⟩
theorem c_X4_188 : CkM RX4 188 mX4_longNow 1 := ⟨q_X4_longNow.1, q_X4_longNow.2.1, q_X4_longNow.2.2, Or.inl (tb_g 623 (by decide +kernel) rfl)⟩
theorem k_X4_isNight : Cond.instanceMethod mX4_isNight.1 ∈ TBg ∧ Cond.selects mX4_isNight.1.cls mX4_isNight.1 mX4_isNight.1 ∈ TBg := ⟨tb_g 629 (by decide +kernel) rfl, tb_g 19 (by decide +kernel) rfl⟩
set_option maxRecDepth 20000 in
theorem q_X4_isNight : Cond.code mX4_isNight.1 mX4_isNight.2.1 mX4_isNight.2.2.1 mX4_isNight.2.2.2 ∈ TBg ∧ Cond.initialized mX4_isNight.1.cls ∈ TBg ∧ (mX4_isNight.1.cls ≠ "java/lang/invoke/MethodHandle" ∧ mX4_isNight.1.cls ≠ "java/lang/invoke/VarHandle" ∧ (parseMethodDescriptor mX4_isNight.1.desc).map (fun d => d.parameters.length) = some 0) := ⟨tb_g 630 rfl rfl, tb_g 112 (by decide +kernel) rfl, by decide +kernel⟩
theorem c_X4_142 : CkM RX4 142 mX4_isNight 0 := ⟨q_X4_isNight.1, q_X4_isNight.2.1, q_X4_isNight.2.2, Or.inl (tb_g 627 (by decide +kernel) rfl)⟩
theorem k_X4_longByDaylight : Cond.instanceMethod mX4_longByDaylight.1 ∈ TBg ∧ Cond.selects mX4_longByDaylight.1.cls mX4_longByDaylight.1 mX4_longByDaylight.1 ∈ TBg := ⟨tb_g 633 (by decide +kernel) rfl, tb_g 20 (by decide +kernel) rfl⟩
set_option maxRecDepth 20000 in
theorem q_X4_longByDaylight : Cond.code mX4_longByDaylight.1 mX4_longByDaylight.2.1 mX4_longByDaylight.2.2.1 mX4_longByDaylight.2.2.2 ∈ TBg ∧ Cond.initialized mX4_longByDaylight.1.cls ∈ TBg ∧ (mX4_longByDaylight.1.cls ≠ "java/lang/invoke/MethodHandle" ∧ mX4_longByDaylight.1.cls ≠ "java/lang/invoke/VarHandle" ∧ (parseMethodDescriptor mX4_longByDaylight.1.desc).map (fun d => d.parameters.length) = some 1) := ⟨tb_g 634 rfl rfl, tb_g 112 (by decide +kernel) rfl, by decide +kernel⟩
theorem c_X4_150 : CkM RX4 150 mX4_longByDaylight 1 := ⟨q_X4_longByDaylight.1, q_X4_longByDaylight.2.1, q_X4_longByDaylight.2.2, Or.inl (tb_g 631 (by decide +kernel) rfl)⟩
theorem k_X4_today : Cond.instanceMethod mX4_today.1 ∈ TBg ∧ Cond.selects mX4_today.1.cls mX4_today.1 mX4_today.1 ∈ TBg := ⟨tb_g 637 (by decide +kernel) rfl, tb_g 21 (by decide +kernel) rfl⟩
set_option maxRecDepth 20000 in
theorem q_X4_today : Cond.code mX4_today.1 mX4_today.2.1 mX4_today.2.2.1 mX4_today.2.2.2 ∈ TBg ∧ Cond.initialized mX4_today.1.cls ∈ TBg ∧ (mX4_today.1.cls ≠ "java/lang/invoke/MethodHandle" ∧ mX4_today.1.cls ≠ "java/lang/invoke/VarHandle" ∧ (parseMethodDescriptor mX4_today.1.desc).map (fun d => d.parameters.length) = some 0) := ⟨tb_g 638 rfl rfl, tb_g 112 (by decide +kernel) rfl, by decide +kernel⟩
theorem c_X4_156 : CkM RX4 156 mX4_today 0 := ⟨q_X4_today.1, q_X4_today.2.1, q_X4_today.2.2, Or.inl (tb_g 635 (by decide +kernel) rfl)⟩
theorem k_X4_heightOn : Cond.instanceMethod mX4_heightOn.1 ∈ TBg ∧ Cond.selects mX4_heightOn.1.cls mX4_heightOn.1 mX4_heightOn.1 ∈ TBg := ⟨tb_g 641 (by decide +kernel) rfl, tb_g 22 (by decide +kernel) rfl⟩
set_option maxRecDepth 20000 in
theorem q_X4_heightOn : Cond.code mX4_heightOn.1 mX4_heightOn.2.1 mX4_heightOn.2.2.1 mX4_heightOn.2.2.2 ∈ TBg ∧ Cond.initialized mX4_heightOn.1.cls ∈ TBg ∧ (mX4_heightOn.1.cls ≠ "java/lang/invoke/MethodHandle" ∧ mX4_heightOn.1.cls ≠ "java/lang/invoke/VarHandle" ∧ (parseMethodDescriptor mX4_heightOn.1.desc).map (fun d => d.parameters.length) = some 1) := ⟨tb_g 642 rfl rfl, tb_g 112 (by decide +kernel) rfl, by decide +kernel⟩
theorem c_X4_135 : CkM RX4 135 mX4_heightOn 1 := ⟨q_X4_heightOn.1, q_X4_heightOn.2.1, q_X4_heightOn.2.2, Or.inl (tb_g 639 (by decide +kernel) rfl)⟩
theorem k_X4_setOut : Cond.instanceMethod mX4_setOut.1 ∈ TBg ∧ Cond.selects mX4_setOut.1.cls mX4_setOut.1 mX4_setOut.1 ∈ TBg := ⟨tb_g 645 (by decide +kernel) rfl, tb_g 23 (by decide +kernel) rfl⟩
set_option maxRecDepth 20000 in
theorem q_X4_setOut : Cond.code mX4_setOut.1 mX4_setOut.2.1 mX4_setOut.2.2.1 mX4_setOut.2.2.2 ∈ TBg ∧ Cond.initialized mX4_setOut.1.cls ∈ TBg ∧ (mX4_setOut.1.cls ≠ "java/lang/invoke/MethodHandle" ∧ mX4_setOut.1.cls ≠ "java/lang/invoke/VarHandle" ∧ (parseMethodDescriptor mX4_setOut.1.desc).map (fun d => d.parameters.length) = some 2) := ⟨tb_g 646 rfl rfl, tb_g 112 (by decide +kernel) rfl, by decide +kernel⟩
theorem c_X11_177 : CkM RX11 177 mX4_setOut 2 := ⟨q_X4_setOut.1, q_X4_setOut.2.1, q_X4_setOut.2.2, Or.inr ⟨"RiverSteamers", tb_n 643 (by decide +kernel) rfl⟩⟩
theorem k_X4_waterOn : Cond.instanceMethod mX4_waterOn.1 ∈ TBg ∧ Cond.selects mX4_waterOn.1.cls mX4_waterOn.1 mX4_waterOn.1 ∈ TBg := ⟨tb_g 649 (by decide +kernel) rfl, tb_g 24 (by decide +kernel) rfl⟩
set_option maxRecDepth 20000 in
theorem q_X4_waterOn : Cond.code mX4_waterOn.1 mX4_waterOn.2.1 mX4_waterOn.2.2.1 mX4_waterOn.2.2.2 ∈ TBg ∧ Cond.initialized mX4_waterOn.1.cls ∈ TBg ∧ (mX4_waterOn.1.cls ≠ "java/lang/invoke/MethodHandle" ∧ mX4_waterOn.1.cls ≠ "java/lang/invoke/VarHandle" ∧ (parseMethodDescriptor mX4_waterOn.1.desc).map (fun d => d.parameters.length) = some 2) := ⟨tb_g 650 rfl rfl, tb_g 112 (by decide +kernel) rfl, by decide +kernel⟩
theorem c_X4_191 : CkM RX4 191 mX4_waterOn 2 := ⟨q_X4_waterOn.1, q_X4_waterOn.2.1, q_X4_waterOn.2.2, Or.inl (tb_g 647 (by decide +kernel) rfl)⟩
theorem k_X7_shiftOn : Cond.instanceMethod mX7_shiftOn.1 ∈ TBg ∧ Cond.selects mX7_shiftOn.1.cls mX7_shiftOn.1 mX7_shiftOn.1 ∈ TBg := ⟨tb_g 653 (by decide +kernel) rfl, tb_g 25 (by decide +kernel) rfl⟩
set_option maxRecDepth 20000 in
theorem q_X7_shiftOn : Cond.code mX7_shiftOn.1 mX7_shiftOn.2.1 mX7_shiftOn.2.2.1 mX7_shiftOn.2.2.2 ∈ TBg ∧ Cond.initialized mX7_shiftOn.1.cls ∈ TBg ∧ (mX7_shiftOn.1.cls ≠ "java/lang/invoke/MethodHandle" ∧ mX7_shiftOn.1.cls ≠ "java/lang/invoke/VarHandle" ∧ (parseMethodDescriptor mX7_shiftOn.1.desc).map (fun d => d.parameters.length) = some 1) := ⟨tb_g 654 rfl rfl, tb_g 114 (by decide +kernel) rfl, by decide +kernel⟩
theorem c_X4_139 : CkM RX4 139 mX7_shiftOn 1 := ⟨q_X7_shiftOn.1, q_X7_shiftOn.2.1, q_X7_shiftOn.2.2, Or.inr ⟨"RiverSteamers", tb_n 651 (by decide +kernel) rfl⟩⟩
theorem k_X10_learn : Cond.instanceMethod mX10_learn.1 ∈ TBg ∧ Cond.selects mX10_learn.1.cls mX10_learn.1 mX10_learn.1 ∈ TBg := ⟨tb_g 657 (by decide +kernel) rfl, tb_g 26 (by decide +kernel) rfl⟩
set_option maxRecDepth 20000 in
theorem q_X10_learn : Cond.code mX10_learn.1 mX10_learn.2.1 mX10_learn.2.2.1 mX10_learn.2.2.2 ∈ TBg ∧ Cond.initialized mX10_learn.1.cls ∈ TBg ∧ (mX10_learn.1.cls ≠ "java/lang/invoke/MethodHandle" ∧ mX10_learn.1.cls ≠ "java/lang/invoke/VarHandle" ∧ (parseMethodDescriptor mX10_learn.1.desc).map (fun d => d.parameters.length) = some 3) := ⟨tb_g 658 rfl rfl, tb_g 116 (by decide +kernel) rfl, by decide +kernel⟩
theorem c_X4_195 : CkM RX4 195 mX10_learn 3 := ⟨q_X10_learn.1, q_X10_learn.2.1, q_X10_learn.2.2, Or.inr ⟨"RiverSteamers", tb_n 655 (by decide +kernel) rfl⟩⟩
theorem k_X11_off : Cond.instanceMethod mX11_off.1 ∈ TBg ∧ Cond.selects mX11_off.1.cls mX11_off.1 mX11_off.1 ∈ TBg := ⟨tb_g 660 (by decide +kernel) rfl, tb_g 661 (by decide +kernel) rfl⟩
set_option maxRecDepth 20000 in
theorem q_X11_off : Cond.code mX11_off.1 mX11_off.2.1 mX11_off.2.2.1 mX11_off.2.2.2 ∈ TBg ∧ Cond.initialized mX11_off.1.cls ∈ TBg ∧ (mX11_off.1.cls ≠ "java/lang/invoke/MethodHandle" ∧ mX11_off.1.cls ≠ "java/lang/invoke/VarHandle" ∧ (parseMethodDescriptor mX11_off.1.desc).map (fun d => d.parameters.length) = some 1) := ⟨tb_g 662 rfl rfl, tb_g 111 (by decide +kernel) rfl, by decide +kernel⟩
theorem c_L_62 : CkM RL 62 mX11_off 1 := ⟨q_X11_off.1, q_X11_off.2.1, q_X11_off.2.2, Or.inl (tb_g 659 (by decide +kernel) rfl)⟩
theorem c_X11_180 : CkM RX11 180 mX4_today 0 := ⟨q_X4_today.1, q_X4_today.2.1, q_X4_today.2.2, Or.inr ⟨"RiverSteamers", tb_n 663 (by decide +kernel) rfl⟩⟩
theorem c_X11_183 : CkM RX11 183 mX4_waterOn 2 := ⟨q_X4_waterOn.1, q_X4_waterOn.2.1, q_X4_waterOn.2.2, Or.inr ⟨"RiverSteamers", tb_n 664 (by decide +kernel) rfl⟩⟩
theorem k_X4_comeTo : Cond.instanceMethod mX4_comeTo.1 ∈ TBg ∧ Cond.selects mX4_comeTo.1.cls mX4_comeTo.1 mX4_comeTo.1 ∈ TBg := ⟨tb_g 667 (by decide +kernel) rfl, tb_g 27 (by decide +kernel) rfl⟩
set_option maxRecDepth 20000 in
theorem q_X4_comeTo : Cond.code mX4_comeTo.1 mX4_comeTo.2.1 mX4_comeTo.2.2.1 mX4_comeTo.2.2.2 ∈ TBg ∧ Cond.initialized mX4_comeTo.1.cls ∈ TBg ∧ (mX4_comeTo.1.cls ≠ "java/lang/invoke/MethodHandle" ∧ mX4_comeTo.1.cls ≠ "java/lang/invoke/VarHandle" ∧ (parseMethodDescriptor mX4_comeTo.1.desc).map (fun d => d.parameters.length) = some 2) := ⟨tb_g 668 rfl rfl, tb_g 112 (by decide +kernel) rfl, by decide +kernel⟩
theorem c_X11_190 : CkM RX11 190 mX4_comeTo 2 := ⟨q_X4_comeTo.1, q_X4_comeTo.2.1, q_X4_comeTo.2.2, Or.inr ⟨"RiverSteamers", tb_n 665 (by decide +kernel) rfl⟩⟩
theorem k_X10_exchange : Cond.instanceMethod mX10_exchange.1 ∈ TBg ∧ Cond.selects mX10_exchange.1.cls mX10_exchange.1 mX10_exchange.1 ∈ TBg := ⟨tb_g 671 (by decide +kernel) rfl, tb_g 28 (by decide +kernel) rfl⟩
set_option maxRecDepth 20000 in
theorem q_X10_exchange : Cond.code mX10_exchange.1 mX10_exchange.2.1 mX10_exchange.2.2.1 mX10_exchange.2.2.2 ∈ TBg ∧ Cond.initialized mX10_exchange.1.cls ∈ TBg ∧ (mX10_exchange.1.cls ≠ "java/lang/invoke/MethodHandle" ∧ mX10_exchange.1.cls ≠ "java/lang/invoke/VarHandle" ∧ (parseMethodDescriptor mX10_exchange.1.desc).map (fun d => d.parameters.length) = some 1) := ⟨tb_g 672 rfl rfl, tb_g 116 (by decide +kernel) rfl, by decide +kernel⟩
theorem c_X4_216 : CkM RX4 216 mX10_exchange 1 := ⟨q_X10_exchange.1, q_X10_exchange.2.1, q_X10_exchange.2.2, Or.inr ⟨"RiverSteamers", tb_n 669 (by decide +kernel) rfl⟩⟩
theorem c_X10_30 : CkM RX10 30 mX10_learn 3 := ⟨q_X10_learn.1, q_X10_learn.2.1, q_X10_learn.2.2, Or.inl (tb_g 673 (by decide +kernel) rfl)⟩
theorem k_X11_go : Cond.instanceMethod mX11_go.1 ∈ TBg ∧ Cond.selects mX11_go.1.cls mX11_go.1 mX11_go.1 ∈ TBg := ⟨tb_g 675 (by decide +kernel) rfl, tb_g 676 (by decide +kernel) rfl⟩
set_option maxRecDepth 20000 in
theorem q_X11_go : Cond.code mX11_go.1 mX11_go.2.1 mX11_go.2.2.1 mX11_go.2.2.2 ∈ TBg ∧ Cond.initialized mX11_go.1.cls ∈ TBg ∧ (mX11_go.1.cls ≠ "java/lang/invoke/MethodHandle" ∧ mX11_go.1.cls ≠ "java/lang/invoke/VarHandle" ∧ (parseMethodDescriptor mX11_go.1.desc).map (fun d => d.parameters.length) = some 1) := ⟨tb_g 677 rfl rfl, tb_g 111 (by decide +kernel) rfl, by decide +kernel⟩
theorem c_L_66 : CkM RL 66 mX11_go 1 := ⟨q_X11_go.1, q_X11_go.2.1, q_X11_go.2.2, Or.inl (tb_g 674 (by decide +kernel) rfl)⟩
theorem k_X4_goOneQuarter : Cond.instanceMethod mX4_goOneQuarter.1 ∈ TBg ∧ Cond.selects mX4_goOneQuarter.1.cls mX4_goOneQuarter.1 mX4_goOneQuarter.1 ∈ TBg := ⟨tb_g 680 (by decide +kernel) rfl, tb_g 29 (by decide +kernel) rfl⟩
set_option maxRecDepth 20000 in
theorem q_X4_goOneQuarter : Cond.code mX4_goOneQuarter.1 mX4_goOneQuarter.2.1 mX4_goOneQuarter.2.2.1 mX4_goOneQuarter.2.2.2 ∈ TBg ∧ Cond.initialized mX4_goOneQuarter.1.cls ∈ TBg ∧ (mX4_goOneQuarter.1.cls ≠ "java/lang/invoke/MethodHandle" ∧ mX4_goOneQuarter.1.cls ≠ "java/lang/invoke/VarHandle" ∧ (parseMethodDescriptor mX4_goOneQuarter.1.desc).map (fun d => d.parameters.length) = some 0) := ⟨tb_g 681 rfl rfl, tb_g 112 (by decide +kernel) rfl, by decide +kernel⟩
theorem c_X11_197 : CkM RX11 197 mX4_goOneQuarter 0 := ⟨q_X4_goOneQuarter.1, q_X4_goOneQuarter.2.1, q_X4_goOneQuarter.2.2, Or.inr ⟨"RiverSteamers", tb_n 678 (by decide +kernel) rfl⟩⟩
theorem k_X2_isUnderWay : Cond.instanceMethod mX2_isUnderWay.1 ∈ TBg ∧ Cond.selects mX2_isUnderWay.1.cls mX2_isUnderWay.1 mX2_isUnderWay.1 ∈ TBg := ⟨tb_g 684 (by decide +kernel) rfl, tb_g 30 (by decide +kernel) rfl⟩
set_option maxRecDepth 20000 in
theorem q_X2_isUnderWay : Cond.code mX2_isUnderWay.1 mX2_isUnderWay.2.1 mX2_isUnderWay.2.2.1 mX2_isUnderWay.2.2.2 ∈ TBg ∧ Cond.initialized mX2_isUnderWay.1.cls ∈ TBg ∧ (mX2_isUnderWay.1.cls ≠ "java/lang/invoke/MethodHandle" ∧ mX2_isUnderWay.1.cls ≠ "java/lang/invoke/VarHandle" ∧ (parseMethodDescriptor mX2_isUnderWay.1.desc).map (fun d => d.parameters.length) = some 0) := ⟨tb_g 685 rfl rfl, tb_g 117 (by decide +kernel) rfl, by decide +kernel⟩
theorem c_X4_208 : CkM RX4 208 mX2_isUnderWay 0 := ⟨q_X2_isUnderWay.1, q_X2_isUnderWay.2.1, q_X2_isUnderWay.2.2, Or.inr ⟨"RiverSteamers", tb_n 682 (by decide +kernel) rfl⟩⟩
theorem c_X4_211 : CkM RX4 211 mX4_comeTo 2 := ⟨q_X4_comeTo.1, q_X4_comeTo.2.1, q_X4_comeTo.2.2, Or.inl (tb_g 686 (by decide +kernel) rfl)⟩
theorem k_X11_yard : Cond.instanceMethod mX11_yard.1 ∈ TBg ∧ Cond.selects mX11_yard.1.cls mX11_yard.1 mX11_yard.1 ∈ TBg := ⟨tb_g 688 (by decide +kernel) rfl, tb_g 689 (by decide +kernel) rfl⟩
set_option maxRecDepth 20000 in
theorem q_X11_yard : Cond.code mX11_yard.1 mX11_yard.2.1 mX11_yard.2.2.1 mX11_yard.2.2.2 ∈ TBg ∧ Cond.initialized mX11_yard.1.cls ∈ TBg ∧ (mX11_yard.1.cls ≠ "java/lang/invoke/MethodHandle" ∧ mX11_yard.1.cls ≠ "java/lang/invoke/VarHandle" ∧ (parseMethodDescriptor mX11_yard.1.desc).map (fun d => d.parameters.length) = some 2) := ⟨tb_g 690 rfl rfl, tb_g 111 (by decide +kernel) rfl, by decide +kernel⟩
theorem c_L_70 : CkM RL 70 mX11_yard 2 := ⟨q_X11_yard.1, q_X11_yard.2.1, q_X11_yard.2.2, Or.inl (tb_g 687 (by decide +kernel) rfl)⟩
theorem k_X11_wood : Cond.instanceMethod mX11_wood.1 ∈ TBg ∧ Cond.selects mX11_wood.1.cls mX11_wood.1 mX11_wood.1 ∈ TBg := ⟨tb_g 692 (by decide +kernel) rfl, tb_g 693 (by decide +kernel) rfl⟩
set_option maxRecDepth 20000 in
theorem q_X11_wood : Cond.code mX11_wood.1 mX11_wood.2.1 mX11_wood.2.2.1 mX11_wood.2.2.2 ∈ TBg ∧ Cond.initialized mX11_wood.1.cls ∈ TBg ∧ (mX11_wood.1.cls ≠ "java/lang/invoke/MethodHandle" ∧ mX11_wood.1.cls ≠ "java/lang/invoke/VarHandle" ∧ (parseMethodDescriptor mX11_wood.1.desc).map (fun d => d.parameters.length) = some 2) := ⟨tb_g 694 rfl rfl, tb_g 111 (by decide +kernel) rfl, by decide +kernel⟩
theorem c_L_74 : CkM RL 74 mX11_wood 2 := ⟨q_X11_wood.1, q_X11_wood.2.1, q_X11_wood.2.2, Or.inl (tb_g 691 (by decide +kernel) rfl)⟩
theorem k_X11_trip : Cond.instanceMethod mX11_trip.1 ∈ TBg ∧ Cond.selects mX11_trip.1.cls mX11_trip.1 mX11_trip.1 ∈ TBg := ⟨tb_g 696 (by decide +kernel) rfl, tb_g 697 (by decide +kernel) rfl⟩
set_option maxRecDepth 20000 in
theorem q_X11_trip : Cond.code mX11_trip.1 mX11_trip.2.1 mX11_trip.2.2.1 mX11_trip.2.2.2 ∈ TBg ∧ Cond.initialized mX11_trip.1.cls ∈ TBg ∧ (mX11_trip.1.cls ≠ "java/lang/invoke/MethodHandle" ∧ mX11_trip.1.cls ≠ "java/lang/invoke/VarHandle" ∧ (parseMethodDescriptor mX11_trip.1.desc).map (fun d => d.parameters.length) = some 3) := ⟨tb_g 698 rfl rfl, tb_g 111 (by decide +kernel) rfl, by decide +kernel⟩
theorem c_L_78 : CkM RL 78 mX11_trip 3 := ⟨q_X11_trip.1, q_X11_trip.2.1, q_X11_trip.2.2, Or.inl (tb_g 695 (by decide +kernel) rfl)⟩
theorem k_X8_begin : Cond.instanceMethod mX8_begin.1 ∈ TBg ∧ Cond.selects mX8_begin.1.cls mX8_begin.1 mX8_begin.1 ∈ TBg := ⟨tb_g 701 (by decide +kernel) rfl, tb_g 31 (by decide +kernel) rfl⟩
set_option maxRecDepth 20000 in
theorem q_X8_begin : Cond.code mX8_begin.1 mX8_begin.2.1 mX8_begin.2.2.1 mX8_begin.2.2.2 ∈ TBg ∧ Cond.initialized mX8_begin.1.cls ∈ TBg ∧ (mX8_begin.1.cls ≠ "java/lang/invoke/MethodHandle" ∧ mX8_begin.1.cls ≠ "java/lang/invoke/VarHandle" ∧ (parseMethodDescriptor mX8_begin.1.desc).map (fun d => d.parameters.length) = some 3) := ⟨tb_g 702 rfl rfl, tb_g 119 (by decide +kernel) rfl, by decide +kernel⟩
theorem c_X11_222 : CkM RX11 222 mX8_begin 3 := ⟨q_X8_begin.1, q_X8_begin.2.1, q_X8_begin.2.2, Or.inr ⟨"RiverSteamers", tb_n 699 (by decide +kernel) rfl⟩⟩
theorem k_X11_rule : Cond.instanceMethod mX11_rule.1 ∈ TBg ∧ Cond.selects mX11_rule.1.cls mX11_rule.1 mX11_rule.1 ∈ TBg := ⟨tb_g 704 (by decide +kernel) rfl, tb_g 705 (by decide +kernel) rfl⟩
set_option maxRecDepth 20000 in
theorem q_X11_rule : Cond.code mX11_rule.1 mX11_rule.2.1 mX11_rule.2.2.1 mX11_rule.2.2.2 ∈ TBg ∧ Cond.initialized mX11_rule.1.cls ∈ TBg ∧ (mX11_rule.1.cls ≠ "java/lang/invoke/MethodHandle" ∧ mX11_rule.1.cls ≠ "java/lang/invoke/VarHandle" ∧ (parseMethodDescriptor mX11_rule.1.desc).map (fun d => d.parameters.length) = some 3) := ⟨tb_g 706 rfl rfl, tb_g 111 (by decide +kernel) rfl, by decide +kernel⟩
theorem c_L_82 : CkM RL 82 mX11_rule 3 := ⟨q_X11_rule.1, q_X11_rule.2.1, q_X11_rule.2.2, Or.inl (tb_g 703 (by decide +kernel) rfl)⟩
theorem k_X5_begin : Cond.instanceMethod mX5_begin.1 ∈ TBg ∧ Cond.selects mX5_begin.1.cls mX5_begin.1 mX5_begin.1 ∈ TBg := ⟨tb_g 709 (by decide +kernel) rfl, tb_g 32 (by decide +kernel) rfl⟩
set_option maxRecDepth 20000 in
theorem q_X5_begin : Cond.code mX5_begin.1 mX5_begin.2.1 mX5_begin.2.2.1 mX5_begin.2.2.2 ∈ TBg ∧ Cond.initialized mX5_begin.1.cls ∈ TBg ∧ (mX5_begin.1.cls ≠ "java/lang/invoke/MethodHandle" ∧ mX5_begin.1.cls ≠ "java/lang/invoke/VarHandle" ∧ (parseMethodDescriptor mX5_begin.1.desc).map (fun d => d.parameters.length) = some 4) := ⟨tb_g 710 rfl rfl, tb_g 120 (by decide +kernel) rfl, by decide +kernel⟩
theorem c_X11_234 : CkM RX11 234 mX5_begin 4 := ⟨q_X5_begin.1, q_X5_begin.2.1, q_X5_begin.2.2, Or.inr ⟨"RiverSteamers", tb_n 707 (by decide +kernel) rfl⟩⟩
theorem k_X11_image : Cond.instanceMethod mX11_image.1 ∈ TBg ∧ Cond.selects mX11_image.1.cls mX11_image.1 mX11_image.1 ∈ TBg := ⟨tb_g 712 (by decide +kernel) rfl, tb_g 713 (by decide +kernel) rfl⟩
set_option maxRecDepth 20000 in
theorem q_X11_image : Cond.code mX11_image.1 mX11_image.2.1 mX11_image.2.2.1 mX11_image.2.2.2 ∈ TBg ∧ Cond.initialized mX11_image.1.cls ∈ TBg ∧ (mX11_image.1.cls ≠ "java/lang/invoke/MethodHandle" ∧ mX11_image.1.cls ≠ "java/lang/invoke/VarHandle" ∧ (parseMethodDescriptor mX11_image.1.desc).map (fun d => d.parameters.length) = some 0) := ⟨tb_g 714 rfl rfl, tb_g 111 (by decide +kernel) rfl, by decide +kernel⟩
theorem c_L_86 : CkM RL 86 mX11_image 0 := ⟨q_X11_image.1, q_X11_image.2.1, q_X11_image.2.2, Or.inl (tb_g 711 (by decide +kernel) rfl)⟩
theorem k_X4_copyFrom : Cond.instanceMethod mX4_copyFrom.1 ∈ TBg ∧ Cond.selects mX4_copyFrom.1.cls mX4_copyFrom.1 mX4_copyFrom.1 ∈ TBg := ⟨tb_g 717 (by decide +kernel) rfl, tb_g 33 (by decide +kernel) rfl⟩
set_option maxRecDepth 20000 in
theorem q_X4_copyFrom : Cond.code mX4_copyFrom.1 mX4_copyFrom.2.1 mX4_copyFrom.2.2.1 mX4_copyFrom.2.2.2 ∈ TBg ∧ Cond.initialized mX4_copyFrom.1.cls ∈ TBg ∧ (mX4_copyFrom.1.cls ≠ "java/lang/invoke/MethodHandle" ∧ mX4_copyFrom.1.cls ≠ "java/lang/invoke/VarHandle" ∧ (parseMethodDescriptor mX4_copyFrom.1.desc).map (fun d => d.parameters.length) = some 1) := ⟨tb_g 718 rfl rfl, tb_g 112 (by decide +kernel) rfl, by decide +kernel⟩
theorem c_X11_237 : CkM RX11 237 mX4_copyFrom 1 := ⟨q_X4_copyFrom.1, q_X4_copyFrom.2.1, q_X4_copyFrom.2.2, Or.inr ⟨"RiverSteamers", tb_n 715 (by decide +kernel) rfl⟩⟩
theorem k_X4_copyThings : Cond.instanceMethod mX4_copyThings.1 ∈ TBg ∧ Cond.selects mX4_copyThings.1.cls mX4_copyThings.1 mX4_copyThings.1 ∈ TBg := ⟨tb_g 724 (by decide +kernel) rfl, tb_g 34 (by decide +kernel) rfl⟩
set_option maxRecDepth 20000 in
theorem q_X4_copyThings : Cond.code mX4_copyThings.1 mX4_copyThings.2.1 mX4_copyThings.2.2.1 mX4_copyThings.2.2.2 ∈ TBg ∧ Cond.initialized mX4_copyThings.1.cls ∈ TBg ∧ (mX4_copyThings.1.cls ≠ "java/lang/invoke/MethodHandle" ∧ mX4_copyThings.1.cls ≠ "java/lang/invoke/VarHandle" ∧ (parseMethodDescriptor mX4_copyThings.1.desc).map (fun d => d.parameters.length) = some 1) := ⟨tb_g 725 rfl rfl, tb_g 112 (by decide +kernel) rfl, by decide +kernel⟩
theorem c_X4_98 : CkM RX4 98 mX4_copyThings 1 := ⟨q_X4_copyThings.1, q_X4_copyThings.2.1, q_X4_copyThings.2.2, Or.inl (tb_g 722 (by decide +kernel) rfl)⟩
theorem k_X7_copyFrom : Cond.instanceMethod mX7_copyFrom.1 ∈ TBg ∧ Cond.selects mX7_copyFrom.1.cls mX7_copyFrom.1 mX7_copyFrom.1 ∈ TBg := ⟨tb_g 728 (by decide +kernel) rfl, tb_g 35 (by decide +kernel) rfl⟩
set_option maxRecDepth 20000 in
theorem q_X7_copyFrom : Cond.code mX7_copyFrom.1 mX7_copyFrom.2.1 mX7_copyFrom.2.2.1 mX7_copyFrom.2.2.2 ∈ TBg ∧ Cond.initialized mX7_copyFrom.1.cls ∈ TBg ∧ (mX7_copyFrom.1.cls ≠ "java/lang/invoke/MethodHandle" ∧ mX7_copyFrom.1.cls ≠ "java/lang/invoke/VarHandle" ∧ (parseMethodDescriptor mX7_copyFrom.1.desc).map (fun d => d.parameters.length) = some 1) := ⟨tb_g 729 rfl rfl, tb_g 114 (by decide +kernel) rfl, by decide +kernel⟩
theorem c_X4_102 : CkM RX4 102 mX7_copyFrom 1 := ⟨q_X7_copyFrom.1, q_X7_copyFrom.2.1, q_X7_copyFrom.2.2, Or.inr ⟨"RiverSteamers", tb_n 726 (by decide +kernel) rfl⟩⟩
theorem k_X3_copyFrom : Cond.instanceMethod mX3_copyFrom.1 ∈ TBg ∧ Cond.selects mX3_copyFrom.1.cls mX3_copyFrom.1 mX3_copyFrom.1 ∈ TBg := ⟨tb_g 733 (by decide +kernel) rfl, tb_g 36 (by decide +kernel) rfl⟩
set_option maxRecDepth 20000 in
theorem q_X3_copyFrom : Cond.code mX3_copyFrom.1 mX3_copyFrom.2.1 mX3_copyFrom.2.2.1 mX3_copyFrom.2.2.2 ∈ TBg ∧ Cond.initialized mX3_copyFrom.1.cls ∈ TBg ∧ (mX3_copyFrom.1.cls ≠ "java/lang/invoke/MethodHandle" ∧ mX3_copyFrom.1.cls ≠ "java/lang/invoke/VarHandle" ∧ (parseMethodDescriptor mX3_copyFrom.1.desc).map (fun d => d.parameters.length) = some 1) := ⟨tb_g 734 rfl rfl, tb_g 115 (by decide +kernel) rfl, by decide +kernel⟩
theorem c_X4_106 : CkM RX4 106 mX3_copyFrom 1 := ⟨q_X3_copyFrom.1, q_X3_copyFrom.2.1, q_X3_copyFrom.2.2, Or.inr ⟨"RiverSteamers", tb_n 731 (by decide +kernel) rfl⟩⟩
theorem k_X10_copyFrom : Cond.instanceMethod mX10_copyFrom.1 ∈ TBg ∧ Cond.selects mX10_copyFrom.1.cls mX10_copyFrom.1 mX10_copyFrom.1 ∈ TBg := ⟨tb_g 737 (by decide +kernel) rfl, tb_g 37 (by decide +kernel) rfl⟩
set_option maxRecDepth 20000 in
theorem q_X10_copyFrom : Cond.code mX10_copyFrom.1 mX10_copyFrom.2.1 mX10_copyFrom.2.2.1 mX10_copyFrom.2.2.2 ∈ TBg ∧ Cond.initialized mX10_copyFrom.1.cls ∈ TBg ∧ (mX10_copyFrom.1.cls ≠ "java/lang/invoke/MethodHandle" ∧ mX10_copyFrom.1.cls ≠ "java/lang/invoke/VarHandle" ∧ (parseMethodDescriptor mX10_copyFrom.1.desc).map (fun d => d.parameters.length) = some 1) := ⟨tb_g 738 rfl rfl, tb_g 116 (by decide +kernel) rfl, by decide +kernel⟩
theorem c_X3_20 : CkM RX3 20 mX10_copyFrom 1 := ⟨q_X10_copyFrom.1, q_X10_copyFrom.2.1, q_X10_copyFrom.2.2, Or.inr ⟨"RiverSteamers", tb_n 735 (by decide +kernel) rfl⟩⟩
theorem k_X2_copyFrom : Cond.instanceMethod mX2_copyFrom.1 ∈ TBg ∧ Cond.selects mX2_copyFrom.1.cls mX2_copyFrom.1 mX2_copyFrom.1 ∈ TBg := ⟨tb_g 742 (by decide +kernel) rfl, tb_g 38 (by decide +kernel) rfl⟩
set_option maxRecDepth 20000 in
theorem q_X2_copyFrom : Cond.code mX2_copyFrom.1 mX2_copyFrom.2.1 mX2_copyFrom.2.2.1 mX2_copyFrom.2.2.2 ∈ TBg ∧ Cond.initialized mX2_copyFrom.1.cls ∈ TBg ∧ (mX2_copyFrom.1.cls ≠ "java/lang/invoke/MethodHandle" ∧ mX2_copyFrom.1.cls ≠ "java/lang/invoke/VarHandle" ∧ (parseMethodDescriptor mX2_copyFrom.1.desc).map (fun d => d.parameters.length) = some 1) := ⟨tb_g 743 rfl rfl, tb_g 117 (by decide +kernel) rfl, by decide +kernel⟩
theorem c_X4_109 : CkM RX4 109 mX2_copyFrom 1 := ⟨q_X2_copyFrom.1, q_X2_copyFrom.2.1, q_X2_copyFrom.2.2, Or.inr ⟨"RiverSteamers", tb_n 740 (by decide +kernel) rfl⟩⟩
theorem c_X2_49 : CkM RX2 49 mX10_copyFrom 1 := ⟨q_X10_copyFrom.1, q_X10_copyFrom.2.1, q_X10_copyFrom.2.2, Or.inr ⟨"RiverSteamers", tb_n 744 (by decide +kernel) rfl⟩⟩
theorem k_X1_copyFrom : Cond.instanceMethod mX1_copyFrom.1 ∈ TBg ∧ Cond.selects mX1_copyFrom.1.cls mX1_copyFrom.1 mX1_copyFrom.1 ∈ TBg := ⟨tb_g 747 (by decide +kernel) rfl, tb_g 39 (by decide +kernel) rfl⟩
set_option maxRecDepth 20000 in
theorem q_X1_copyFrom : Cond.code mX1_copyFrom.1 mX1_copyFrom.2.1 mX1_copyFrom.2.2.1 mX1_copyFrom.2.2.2 ∈ TBg ∧ Cond.initialized mX1_copyFrom.1.cls ∈ TBg ∧ (mX1_copyFrom.1.cls ≠ "java/lang/invoke/MethodHandle" ∧ mX1_copyFrom.1.cls ≠ "java/lang/invoke/VarHandle" ∧ (parseMethodDescriptor mX1_copyFrom.1.desc).map (fun d => d.parameters.length) = some 1) := ⟨tb_g 748 rfl rfl, tb_g 118 (by decide +kernel) rfl, by decide +kernel⟩
theorem c_X4_112 : CkM RX4 112 mX1_copyFrom 1 := ⟨q_X1_copyFrom.1, q_X1_copyFrom.2.1, q_X1_copyFrom.2.2, Or.inr ⟨"RiverSteamers", tb_n 745 (by decide +kernel) rfl⟩⟩
theorem k_X8_copyFrom : Cond.instanceMethod mX8_copyFrom.1 ∈ TBg ∧ Cond.selects mX8_copyFrom.1.cls mX8_copyFrom.1 mX8_copyFrom.1 ∈ TBg := ⟨tb_g 751 (by decide +kernel) rfl, tb_g 40 (by decide +kernel) rfl⟩
set_option maxRecDepth 20000 in
theorem q_X8_copyFrom : Cond.code mX8_copyFrom.1 mX8_copyFrom.2.1 mX8_copyFrom.2.2.1 mX8_copyFrom.2.2.2 ∈ TBg ∧ Cond.initialized mX8_copyFrom.1.cls ∈ TBg ∧ (mX8_copyFrom.1.cls ≠ "java/lang/invoke/MethodHandle" ∧ mX8_copyFrom.1.cls ≠ "java/lang/invoke/VarHandle" ∧ (parseMethodDescriptor mX8_copyFrom.1.desc).map (fun d => d.parameters.length) = some 1) := ⟨tb_g 752 rfl rfl, tb_g 119 (by decide +kernel) rfl, by decide +kernel⟩
theorem c_X4_115 : CkM RX4 115 mX8_copyFrom 1 := ⟨q_X8_copyFrom.1, q_X8_copyFrom.2.1, q_X8_copyFrom.2.2, Or.inr ⟨"RiverSteamers", tb_n 749 (by decide +kernel) rfl⟩⟩
theorem c_X8_19 : CkM RX8 19 mX8_begin 3 := ⟨q_X8_begin.1, q_X8_begin.2.1, q_X8_begin.2.2, Or.inl (tb_g 753 (by decide +kernel) rfl)⟩
theorem k_X5_copyFrom : Cond.instanceMethod mX5_copyFrom.1 ∈ TBg ∧ Cond.selects mX5_copyFrom.1.cls mX5_copyFrom.1 mX5_copyFrom.1 ∈ TBg := ⟨tb_g 756 (by decide +kernel) rfl, tb_g 41 (by decide +kernel) rfl⟩
set_option maxRecDepth 20000 in
theorem q_X5_copyFrom : Cond.code mX5_copyFrom.1 mX5_copyFrom.2.1 mX5_copyFrom.2.2.1 mX5_copyFrom.2.2.2 ∈ TBg ∧ Cond.initialized mX5_copyFrom.1.cls ∈ TBg ∧ (mX5_copyFrom.1.cls ≠ "java/lang/invoke/MethodHandle" ∧ mX5_copyFrom.1.cls ≠ "java/lang/invoke/VarHandle" ∧ (parseMethodDescriptor mX5_copyFrom.1.desc).map (fun d => d.parameters.length) = some 1) := ⟨tb_g 757 rfl rfl, tb_g 120 (by decide +kernel) rfl, by decide +kernel⟩
theorem c_X4_118 : CkM RX4 118 mX5_copyFrom 1 := ⟨q_X5_copyFrom.1, q_X5_copyFrom.2.1, q_X5_copyFrom.2.2, Or.inr ⟨"RiverSteamers", tb_n 754 (by decide +kernel) rfl⟩⟩
theorem c_X5_22 : CkM RX5 22 mX5_begin 4 := ⟨q_X5_begin.1, q_X5_begin.2.1, q_X5_begin.2.2, Or.inl (tb_g 758 (by decide +kernel) rfl)⟩
theorem k_X11_back : Cond.instanceMethod mX11_back.1 ∈ TBg ∧ Cond.selects mX11_back.1.cls mX11_back.1 mX11_back.1 ∈ TBg := ⟨tb_g 760 (by decide +kernel) rfl, tb_g 761 (by decide +kernel) rfl⟩
set_option maxRecDepth 20000 in
theorem q_X11_back : Cond.code mX11_back.1 mX11_back.2.1 mX11_back.2.2.1 mX11_back.2.2.2 ∈ TBg ∧ Cond.initialized mX11_back.1.cls ∈ TBg ∧ (mX11_back.1.cls ≠ "java/lang/invoke/MethodHandle" ∧ mX11_back.1.cls ≠ "java/lang/invoke/VarHandle" ∧ (parseMethodDescriptor mX11_back.1.desc).map (fun d => d.parameters.length) = some 0) := ⟨tb_g 762 rfl rfl, tb_g 111 (by decide +kernel) rfl, by decide +kernel⟩
theorem c_L_91 : CkM RL 91 mX11_back 0 := ⟨q_X11_back.1, q_X11_back.2.1, q_X11_back.2.2, Or.inl (tb_g 759 (by decide +kernel) rfl)⟩
theorem k_X11_height : Cond.instanceMethod mX11_height.1 ∈ TBg ∧ Cond.selects mX11_height.1.cls mX11_height.1 mX11_height.1 ∈ TBg := ⟨tb_g 764 (by decide +kernel) rfl, tb_g 765 (by decide +kernel) rfl⟩
set_option maxRecDepth 20000 in
theorem q_X11_height : Cond.code mX11_height.1 mX11_height.2.1 mX11_height.2.2.1 mX11_height.2.2.2 ∈ TBg ∧ Cond.initialized mX11_height.1.cls ∈ TBg ∧ (mX11_height.1.cls ≠ "java/lang/invoke/MethodHandle" ∧ mX11_height.1.cls ≠ "java/lang/invoke/VarHandle" ∧ (parseMethodDescriptor mX11_height.1.desc).map (fun d => d.parameters.length) = some 1) := ⟨tb_g 766 rfl rfl, tb_g 111 (by decide +kernel) rfl, by decide +kernel⟩
theorem c_L_95 : CkM RL 95 mX11_height 1 := ⟨q_X11_height.1, q_X11_height.2.1, q_X11_height.2.2, Or.inl (tb_g 763 (by decide +kernel) rfl)⟩
theorem c_X11_241 : CkM RX11 241 mX4_heightOn 1 := ⟨q_X4_heightOn.1, q_X4_heightOn.2.1, q_X4_heightOn.2.2, Or.inr ⟨"RiverSteamers", tb_n 767 (by decide +kernel) rfl⟩⟩
theorem k_X11_stretchTold : Cond.instanceMethod mX11_stretchTold.1 ∈ TBg ∧ Cond.selects mX11_stretchTold.1.cls mX11_stretchTold.1 mX11_stretchTold.1 ∈ TBg := ⟨tb_g 769 (by decide +kernel) rfl, tb_g 770 (by decide +kernel) rfl⟩
set_option maxRecDepth 20000 in
theorem q_X11_stretchTold : Cond.code mX11_stretchTold.1 mX11_stretchTold.2.1 mX11_stretchTold.2.2.1 mX11_stretchTold.2.2.2 ∈ TBg ∧ Cond.initialized mX11_stretchTold.1.cls ∈ TBg ∧ (mX11_stretchTold.1.cls ≠ "java/lang/invoke/MethodHandle" ∧ mX11_stretchTold.1.cls ≠ "java/lang/invoke/VarHandle" ∧ (parseMethodDescriptor mX11_stretchTold.1.desc).map (fun d => d.parameters.length) = some 2) := ⟨tb_g 771 rfl rfl, tb_g 111 (by decide +kernel) rfl, by decide +kernel⟩
theorem c_L_99 : CkM RL 99 mX11_stretchTold 2 := ⟨q_X11_stretchTold.1, q_X11_stretchTold.2.1, q_X11_stretchTold.2.2, Or.inl (tb_g 768 (by decide +kernel) rfl)⟩
theorem c_X11_250 : CkM RX11 250 mX7_shiftOn 1 := ⟨q_X7_shiftOn.1, q_X7_shiftOn.2.1, q_X7_shiftOn.2.2, Or.inr ⟨"RiverSteamers", tb_n 772 (by decide +kernel) rfl⟩⟩
theorem c_X11_253 : CkM RX11 253 mX4_longNow 1 := ⟨q_X4_longNow.1, q_X4_longNow.2.1, q_X4_longNow.2.2, Or.inr ⟨"RiverSteamers", tb_n 773 (by decide +kernel) rfl⟩⟩
theorem k_X11_water : Cond.instanceMethod mX11_water.1 ∈ TBg ∧ Cond.selects mX11_water.1.cls mX11_water.1 mX11_water.1 ∈ TBg := ⟨tb_g 775 (by decide +kernel) rfl, tb_g 776 (by decide +kernel) rfl⟩
set_option maxRecDepth 20000 in
theorem q_X11_water : Cond.code mX11_water.1 mX11_water.2.1 mX11_water.2.2.1 mX11_water.2.2.2 ∈ TBg ∧ Cond.initialized mX11_water.1.cls ∈ TBg ∧ (mX11_water.1.cls ≠ "java/lang/invoke/MethodHandle" ∧ mX11_water.1.cls ≠ "java/lang/invoke/VarHandle" ∧ (parseMethodDescriptor mX11_water.1.desc).map (fun d => d.parameters.length) = some 2) := ⟨tb_g 777 rfl rfl, tb_g 111 (by decide +kernel) rfl, by decide +kernel⟩
theorem c_L_103 : CkM RL 103 mX11_water 2 := ⟨q_X11_water.1, q_X11_water.2.1, q_X11_water.2.2, Or.inl (tb_g 774 (by decide +kernel) rfl)⟩
theorem k_X11_boatTold : Cond.instanceMethod mX11_boatTold.1 ∈ TBg ∧ Cond.selects mX11_boatTold.1.cls mX11_boatTold.1 mX11_boatTold.1 ∈ TBg := ⟨tb_g 779 (by decide +kernel) rfl, tb_g 780 (by decide +kernel) rfl⟩
set_option maxRecDepth 20000 in
theorem q_X11_boatTold : Cond.code mX11_boatTold.1 mX11_boatTold.2.1 mX11_boatTold.2.2.1 mX11_boatTold.2.2.2 ∈ TBg ∧ Cond.initialized mX11_boatTold.1.cls ∈ TBg ∧ (mX11_boatTold.1.cls ≠ "java/lang/invoke/MethodHandle" ∧ mX11_boatTold.1.cls ≠ "java/lang/invoke/VarHandle" ∧ (parseMethodDescriptor mX11_boatTold.1.desc).map (fun d => d.parameters.length) = some 2) := ⟨tb_g 781 rfl rfl, tb_g 111 (by decide +kernel) rfl, by decide +kernel⟩
theorem c_L_107 : CkM RL 107 mX11_boatTold 2 := ⟨q_X11_boatTold.1, q_X11_boatTold.2.1, q_X11_boatTold.2.2, Or.inl (tb_g 778 (by decide +kernel) rfl)⟩
theorem c_X11_256 : CkM RX11 256 mX2_isUnderWay 0 := ⟨q_X2_isUnderWay.1, q_X2_isUnderWay.2.1, q_X2_isUnderWay.2.2, Or.inr ⟨"RiverSteamers", tb_n 782 (by decide +kernel) rfl⟩⟩
theorem k_X11_baleTold : Cond.instanceMethod mX11_baleTold.1 ∈ TBg ∧ Cond.selects mX11_baleTold.1.cls mX11_baleTold.1 mX11_baleTold.1 ∈ TBg := ⟨tb_g 784 (by decide +kernel) rfl, tb_g 785 (by decide +kernel) rfl⟩
set_option maxRecDepth 20000 in
theorem q_X11_baleTold : Cond.code mX11_baleTold.1 mX11_baleTold.2.1 mX11_baleTold.2.2.1 mX11_baleTold.2.2.2 ∈ TBg ∧ Cond.initialized mX11_baleTold.1.cls ∈ TBg ∧ (mX11_baleTold.1.cls ≠ "java/lang/invoke/MethodHandle" ∧ mX11_baleTold.1.cls ≠ "java/lang/invoke/VarHandle" ∧ (parseMethodDescriptor mX11_baleTold.1.desc).map (fun d => d.parameters.length) = some 2) := ⟨tb_g 786 rfl rfl, tb_g 111 (by decide +kernel) rfl, by decide +kernel⟩
theorem c_L_111 : CkM RL 111 mX11_baleTold 2 := ⟨q_X11_baleTold.1, q_X11_baleTold.2.1, q_X11_baleTold.2.2, Or.inl (tb_g 783 (by decide +kernel) rfl)⟩
theorem k_X11_why : Cond.instanceMethod mX11_why.1 ∈ TBg ∧ Cond.selects mX11_why.1.cls mX11_why.1 mX11_why.1 ∈ TBg := ⟨tb_g 788 (by decide +kernel) rfl, tb_g 789 (by decide +kernel) rfl⟩
set_option maxRecDepth 20000 in
theorem q_X11_why : Cond.code mX11_why.1 mX11_why.2.1 mX11_why.2.2.1 mX11_why.2.2.2 ∈ TBg ∧ Cond.initialized mX11_why.1.cls ∈ TBg ∧ (mX11_why.1.cls ≠ "java/lang/invoke/MethodHandle" ∧ mX11_why.1.cls ≠ "java/lang/invoke/VarHandle" ∧ (parseMethodDescriptor mX11_why.1.desc).map (fun d => d.parameters.length) = some 2) := ⟨tb_g 790 rfl rfl, tb_g 111 (by decide +kernel) rfl, by decide +kernel⟩
theorem c_L_115 : CkM RL 115 mX11_why 2 := ⟨q_X11_why.1, q_X11_why.2.1, q_X11_why.2.2, Or.inl (tb_g 787 (by decide +kernel) rfl)⟩
theorem k_X11_knows : Cond.instanceMethod mX11_knows.1 ∈ TBg ∧ Cond.selects mX11_knows.1.cls mX11_knows.1 mX11_knows.1 ∈ TBg := ⟨tb_g 792 (by decide +kernel) rfl, tb_g 793 (by decide +kernel) rfl⟩
set_option maxRecDepth 20000 in
theorem q_X11_knows : Cond.code mX11_knows.1 mX11_knows.2.1 mX11_knows.2.2.1 mX11_knows.2.2.2 ∈ TBg ∧ Cond.initialized mX11_knows.1.cls ∈ TBg ∧ (mX11_knows.1.cls ≠ "java/lang/invoke/MethodHandle" ∧ mX11_knows.1.cls ≠ "java/lang/invoke/VarHandle" ∧ (parseMethodDescriptor mX11_knows.1.desc).map (fun d => d.parameters.length) = some 3) := ⟨tb_g 794 rfl rfl, tb_g 111 (by decide +kernel) rfl, by decide +kernel⟩
theorem c_L_119 : CkM RL 119 mX11_knows 3 := ⟨q_X11_knows.1, q_X11_knows.2.1, q_X11_knows.2.2, Or.inl (tb_g 791 (by decide +kernel) rfl)⟩
theorem k_X10_toldOf : Cond.instanceMethod mX10_toldOf.1 ∈ TBg ∧ Cond.selects mX10_toldOf.1.cls mX10_toldOf.1 mX10_toldOf.1 ∈ TBg := ⟨tb_g 797 (by decide +kernel) rfl, tb_g 42 (by decide +kernel) rfl⟩
set_option maxRecDepth 20000 in
theorem q_X10_toldOf : Cond.code mX10_toldOf.1 mX10_toldOf.2.1 mX10_toldOf.2.2.1 mX10_toldOf.2.2.2 ∈ TBg ∧ Cond.initialized mX10_toldOf.1.cls ∈ TBg ∧ (mX10_toldOf.1.cls ≠ "java/lang/invoke/MethodHandle" ∧ mX10_toldOf.1.cls ≠ "java/lang/invoke/VarHandle" ∧ (parseMethodDescriptor mX10_toldOf.1.desc).map (fun d => d.parameters.length) = some 2) := ⟨tb_g 798 rfl rfl, tb_g 116 (by decide +kernel) rfl, by decide +kernel⟩
theorem c_X11_267 : CkM RX11 267 mX10_toldOf 2 := ⟨q_X10_toldOf.1, q_X10_toldOf.2.1, q_X10_toldOf.2.2, Or.inr ⟨"RiverSteamers", tb_n 795 (by decide +kernel) rfl⟩⟩
theorem c_X10_34 : CkM RX10 34 mX10_isKnown 1 := ⟨q_X10_isKnown.1, q_X10_isKnown.2.1, q_X10_isKnown.2.2, Or.inl (tb_g 799 (by decide +kernel) rfl)⟩
theorem c_X10_38 : CkM RX10 38 mX11_isWithin 3 := ⟨q_X11_isWithin.1, q_X11_isWithin.2.1, q_X11_isWithin.2.2, Or.inr ⟨"RiverSteamers", tb_n 800 (by decide +kernel) rfl⟩⟩
theorem k_X11_box : Cond.instanceMethod mX11_box.1 ∈ TBg ∧ Cond.selects mX11_box.1.cls mX11_box.1 mX11_box.1 ∈ TBg := ⟨tb_g 802 (by decide +kernel) rfl, tb_g 803 (by decide +kernel) rfl⟩
set_option maxRecDepth 20000 in
theorem q_X11_box : Cond.code mX11_box.1 mX11_box.2.1 mX11_box.2.2.1 mX11_box.2.2.2 ∈ TBg ∧ Cond.initialized mX11_box.1.cls ∈ TBg ∧ (mX11_box.1.cls ≠ "java/lang/invoke/MethodHandle" ∧ mX11_box.1.cls ≠ "java/lang/invoke/VarHandle" ∧ (parseMethodDescriptor mX11_box.1.desc).map (fun d => d.parameters.length) = some 3) := ⟨tb_g 804 rfl rfl, tb_g 111 (by decide +kernel) rfl, by decide +kernel⟩
theorem c_L_123 : CkM RL 123 mX11_box 3 := ⟨q_X11_box.1, q_X11_box.2.1, q_X11_box.2.2, Or.inl (tb_g 801 (by decide +kernel) rfl)⟩
theorem k_X11_lading : Cond.instanceMethod mX11_lading.1 ∈ TBg ∧ Cond.selects mX11_lading.1.cls mX11_lading.1 mX11_lading.1 ∈ TBg := ⟨tb_g 806 (by decide +kernel) rfl, tb_g 807 (by decide +kernel) rfl⟩
set_option maxRecDepth 20000 in
theorem q_X11_lading : Cond.code mX11_lading.1 mX11_lading.2.1 mX11_lading.2.2.1 mX11_lading.2.2.2 ∈ TBg ∧ Cond.initialized mX11_lading.1.cls ∈ TBg ∧ (mX11_lading.1.cls ≠ "java/lang/invoke/MethodHandle" ∧ mX11_lading.1.cls ≠ "java/lang/invoke/VarHandle" ∧ (parseMethodDescriptor mX11_lading.1.desc).map (fun d => d.parameters.length) = some 2) := ⟨tb_g 808 rfl rfl, tb_g 111 (by decide +kernel) rfl, by decide +kernel⟩
theorem c_L_127 : CkM RL 127 mX11_lading 2 := ⟨q_X11_lading.1, q_X11_lading.2.1, q_X11_lading.2.2, Or.inl (tb_g 805 (by decide +kernel) rfl)⟩
theorem k_X11_listBalesAt : Cond.instanceMethod mX11_listBalesAt.1 ∈ TBg ∧ Cond.selects mX11_listBalesAt.1.cls mX11_listBalesAt.1 mX11_listBalesAt.1 ∈ TBg := ⟨tb_g 811 (by decide +kernel) rfl, tb_g 43 (by decide +kernel) rfl⟩
set_option maxRecDepth 20000 in
theorem q_X11_listBalesAt : Cond.code mX11_listBalesAt.1 mX11_listBalesAt.2.1 mX11_listBalesAt.2.2.1 mX11_listBalesAt.2.2.2 ∈ TBg ∧ Cond.initialized mX11_listBalesAt.1.cls ∈ TBg ∧ (mX11_listBalesAt.1.cls ≠ "java/lang/invoke/MethodHandle" ∧ mX11_listBalesAt.1.cls ≠ "java/lang/invoke/VarHandle" ∧ (parseMethodDescriptor mX11_listBalesAt.1.desc).map (fun d => d.parameters.length) = some 1) := ⟨tb_g 812 rfl rfl, tb_g 111 (by decide +kernel) rfl, by decide +kernel⟩
theorem c_X11_273 : CkM RX11 273 mX11_listBalesAt 1 := ⟨q_X11_listBalesAt.1, q_X11_listBalesAt.2.1, q_X11_listBalesAt.2.2, Or.inl (tb_g 809 (by decide +kernel) rfl)⟩
theorem k_X11_bestSet : Cond.instanceMethod mX11_bestSet.1 ∈ TBg ∧ Cond.selects mX11_bestSet.1.cls mX11_bestSet.1 mX11_bestSet.1 ∈ TBg := ⟨tb_g 815 (by decide +kernel) rfl, tb_g 44 (by decide +kernel) rfl⟩
set_option maxRecDepth 20000 in
theorem q_X11_bestSet : Cond.code mX11_bestSet.1 mX11_bestSet.2.1 mX11_bestSet.2.2.1 mX11_bestSet.2.2.2 ∈ TBg ∧ Cond.initialized mX11_bestSet.1.cls ∈ TBg ∧ (mX11_bestSet.1.cls ≠ "java/lang/invoke/MethodHandle" ∧ mX11_bestSet.1.cls ≠ "java/lang/invoke/VarHandle" ∧ (parseMethodDescriptor mX11_bestSet.1.desc).map (fun d => d.parameters.length) = some 3) := ⟨tb_g 816 rfl rfl, tb_g 111 (by decide +kernel) rfl, by decide +kernel⟩
theorem c_X11_276 : CkM RX11 276 mX11_bestSet 3 := ⟨q_X11_bestSet.1, q_X11_bestSet.2.1, q_X11_bestSet.2.2, Or.inl (tb_g 813 (by decide +kernel) rfl)⟩
theorem k_X2_canTake : Cond.instanceMethod mX2_canTake.1 ∈ TBg ∧ Cond.selects mX2_canTake.1.cls mX2_canTake.1 mX2_canTake.1 ∈ TBg := ⟨tb_g 819 (by decide +kernel) rfl, tb_g 45 (by decide +kernel) rfl⟩
set_option maxRecDepth 20000 in
theorem q_X2_canTake : Cond.code mX2_canTake.1 mX2_canTake.2.1 mX2_canTake.2.2.1 mX2_canTake.2.2.2 ∈ TBg ∧ Cond.initialized mX2_canTake.1.cls ∈ TBg ∧ (mX2_canTake.1.cls ≠ "java/lang/invoke/MethodHandle" ∧ mX2_canTake.1.cls ≠ "java/lang/invoke/VarHandle" ∧ (parseMethodDescriptor mX2_canTake.1.desc).map (fun d => d.parameters.length) = some 2) := ⟨tb_g 820 rfl rfl, tb_g 117 (by decide +kernel) rfl, by decide +kernel⟩
theorem c_X11_369 : CkM RX11 369 mX2_canTake 2 := ⟨q_X2_canTake.1, q_X2_canTake.2.1, q_X2_canTake.2.2, Or.inr ⟨"RiverSteamers", tb_n 817 (by decide +kernel) rfl⟩⟩
theorem k_X11_wooding : Cond.instanceMethod mX11_wooding.1 ∈ TBg ∧ Cond.selects mX11_wooding.1.cls mX11_wooding.1 mX11_wooding.1 ∈ TBg := ⟨tb_g 822 (by decide +kernel) rfl, tb_g 823 (by decide +kernel) rfl⟩
set_option maxRecDepth 20000 in
theorem q_X11_wooding : Cond.code mX11_wooding.1 mX11_wooding.2.1 mX11_wooding.2.2.1 mX11_wooding.2.2.2 ∈ TBg ∧ Cond.initialized mX11_wooding.1.cls ∈ TBg ∧ (mX11_wooding.1.cls ≠ "java/lang/invoke/MethodHandle" ∧ mX11_wooding.1.cls ≠ "java/lang/invoke/VarHandle" ∧ (parseMethodDescriptor mX11_wooding.1.desc).map (fun d => d.parameters.length) = some 3) := ⟨tb_g 824 rfl rfl, tb_g 111 (by decide +kernel) rfl, by decide +kernel⟩
theorem c_L_131 : CkM RL 131 mX11_wooding 3 := ⟨q_X11_wooding.1, q_X11_wooding.2.1, q_X11_wooding.2.2, Or.inl (tb_g 821 (by decide +kernel) rfl)⟩
theorem k_X9_workOut : Cond.instanceMethod mX9_workOut.1 ∈ TBg ∧ Cond.selects mX9_workOut.1.cls mX9_workOut.1 mX9_workOut.1 ∈ TBg := ⟨tb_g 827 (by decide +kernel) rfl, tb_g 46 (by decide +kernel) rfl⟩
set_option maxRecDepth 20000 in
theorem q_X9_workOut : Cond.code mX9_workOut.1 mX9_workOut.2.1 mX9_workOut.2.2.1 mX9_workOut.2.2.2 ∈ TBg ∧ Cond.initialized mX9_workOut.1.cls ∈ TBg ∧ (mX9_workOut.1.cls ≠ "java/lang/invoke/MethodHandle" ∧ mX9_workOut.1.cls ≠ "java/lang/invoke/VarHandle" ∧ (parseMethodDescriptor mX9_workOut.1.desc).map (fun d => d.parameters.length) = some 4) := ⟨tb_g 828 rfl rfl, tb_g 122 (by decide +kernel) rfl, by decide +kernel⟩
theorem c_X11_280 : CkM RX11 280 mX9_workOut 4 := ⟨q_X9_workOut.1, q_X9_workOut.2.1, q_X9_workOut.2.2, Or.inr ⟨"RiverSteamers", tb_n 825 (by decide +kernel) rfl⟩⟩
theorem k_J_abs : Cond.static mJ_abs.1 ∈ TBg := tb_g 830 (by decide +kernel) rfl
set_option maxRecDepth 20000 in
theorem q_J_abs : Cond.code mJ_abs.1 mJ_abs.2.1 mJ_abs.2.2.1 mJ_abs.2.2.2 ∈ TBg ∧ Cond.initialized mJ_abs.1.cls ∈ TBg ∧ (mJ_abs.1.cls ≠ "java/lang/invoke/MethodHandle" ∧ mJ_abs.1.cls ≠ "java/lang/invoke/VarHandle" ∧ (parseMethodDescriptor mJ_abs.1.desc).map (fun d => d.parameters.length) = some 1) := ⟨tb_g 831 rfl rfl, tb_g 126 (by decide +kernel) rfl, by decide +kernel⟩
theorem c_X9_28 : CkM RX9 28 mJ_abs 1 := ⟨q_J_abs.1, q_J_abs.2.1, q_J_abs.2.2, Or.inl (tb_g 829 (by decide +kernel) rfl)⟩
theorem c_X9_45 : CkM RX9 45 mX4_longByDaylight 1 := ⟨q_X4_longByDaylight.1, q_X4_longByDaylight.2.1, q_X4_longByDaylight.2.2, Or.inr ⟨"RiverSteamers", tb_n 832 (by decide +kernel) rfl⟩⟩
theorem k_X9_workOutStep : Cond.instanceMethod mX9_workOutStep.1 ∈ TBg ∧ Cond.selects mX9_workOutStep.1.cls mX9_workOutStep.1 mX9_workOutStep.1 ∈ TBg := ⟨tb_g 835 (by decide +kernel) rfl, tb_g 47 (by decide +kernel) rfl⟩
set_option maxRecDepth 20000 in
theorem q_X9_workOutStep : Cond.code mX9_workOutStep.1 mX9_workOutStep.2.1 mX9_workOutStep.2.2.1 mX9_workOutStep.2.2.2 ∈ TBg ∧ Cond.initialized mX9_workOutStep.1.cls ∈ TBg ∧ (mX9_workOutStep.1.cls ≠ "java/lang/invoke/MethodHandle" ∧ mX9_workOutStep.1.cls ≠ "java/lang/invoke/VarHandle" ∧ (parseMethodDescriptor mX9_workOutStep.1.desc).map (fun d => d.parameters.length) = some 1) := ⟨tb_g 836 rfl rfl, tb_g 122 (by decide +kernel) rfl, by decide +kernel⟩
theorem c_X9_48 : CkM RX9 48 mX9_workOutStep 1 := ⟨q_X9_workOutStep.1, q_X9_workOutStep.2.1, q_X9_workOutStep.2.2, Or.inl (tb_g 833 (by decide +kernel) rfl)⟩
theorem k_X9_costOnward : Cond.instanceMethod mX9_costOnward.1 ∈ TBg ∧ Cond.selects mX9_costOnward.1.cls mX9_costOnward.1 mX9_costOnward.1 ∈ TBg := ⟨tb_g 840 (by decide +kernel) rfl, tb_g 48 (by decide +kernel) rfl⟩
set_option maxRecDepth 20000 in
theorem q_X9_costOnward : Cond.code mX9_costOnward.1 mX9_costOnward.2.1 mX9_costOnward.2.2.1 mX9_costOnward.2.2.2 ∈ TBg ∧ Cond.initialized mX9_costOnward.1.cls ∈ TBg ∧ (mX9_costOnward.1.cls ≠ "java/lang/invoke/MethodHandle" ∧ mX9_costOnward.1.cls ≠ "java/lang/invoke/VarHandle" ∧ (parseMethodDescriptor mX9_costOnward.1.desc).map (fun d => d.parameters.length) = some 2) := ⟨tb_g 841 rfl rfl, tb_g 122 (by decide +kernel) rfl, by decide +kernel⟩
theorem c_X9_53 : CkM RX9 53 mX9_costOnward 2 := ⟨q_X9_costOnward.1, q_X9_costOnward.2.1, q_X9_costOnward.2.2, Or.inl (tb_g 838 (by decide +kernel) rfl)⟩
theorem k_J_min : Cond.static mJ_min.1 ∈ TBg := tb_g 843 (by decide +kernel) rfl
set_option maxRecDepth 20000 in
theorem q_J_min : Cond.code mJ_min.1 mJ_min.2.1 mJ_min.2.2.1 mJ_min.2.2.2 ∈ TBg ∧ Cond.initialized mJ_min.1.cls ∈ TBg ∧ (mJ_min.1.cls ≠ "java/lang/invoke/MethodHandle" ∧ mJ_min.1.cls ≠ "java/lang/invoke/VarHandle" ∧ (parseMethodDescriptor mJ_min.1.desc).map (fun d => d.parameters.length) = some 2) := ⟨tb_g 844 rfl rfl, tb_g 126 (by decide +kernel) rfl, by decide +kernel⟩
theorem c_X9_57 : CkM RX9 57 mJ_min 2 := ⟨q_J_min.1, q_J_min.2.1, q_J_min.2.2, Or.inl (tb_g 842 (by decide +kernel) rfl)⟩
theorem k_X9_leastCost : Cond.instanceMethod mX9_leastCost.1 ∈ TBg ∧ Cond.selects mX9_leastCost.1.cls mX9_leastCost.1 mX9_leastCost.1 ∈ TBg := ⟨tb_g 847 (by decide +kernel) rfl, tb_g 49 (by decide +kernel) rfl⟩
set_option maxRecDepth 20000 in
theorem q_X9_leastCost : Cond.code mX9_leastCost.1 mX9_leastCost.2.1 mX9_leastCost.2.2.1 mX9_leastCost.2.2.2 ∈ TBg ∧ Cond.initialized mX9_leastCost.1.cls ∈ TBg ∧ (mX9_leastCost.1.cls ≠ "java/lang/invoke/MethodHandle" ∧ mX9_leastCost.1.cls ≠ "java/lang/invoke/VarHandle" ∧ (parseMethodDescriptor mX9_leastCost.1.desc).map (fun d => d.parameters.length) = some 0) := ⟨tb_g 848 rfl rfl, tb_g 122 (by decide +kernel) rfl, by decide +kernel⟩
theorem c_X11_284 : CkM RX11 284 mX9_leastCost 0 := ⟨q_X9_leastCost.1, q_X9_leastCost.2.1, q_X9_leastCost.2.2, Or.inr ⟨"RiverSteamers", tb_n 845 (by decide +kernel) rfl⟩⟩
theorem k_X11_bought : Cond.instanceMethod mX11_bought.1 ∈ TBg ∧ Cond.selects mX11_bought.1.cls mX11_bought.1 mX11_bought.1 ∈ TBg := ⟨tb_g 850 (by decide +kernel) rfl, tb_g 851 (by decide +kernel) rfl⟩
set_option maxRecDepth 20000 in
theorem q_X11_bought : Cond.code mX11_bought.1 mX11_bought.2.1 mX11_bought.2.2.1 mX11_bought.2.2.2 ∈ TBg ∧ Cond.initialized mX11_bought.1.cls ∈ TBg ∧ (mX11_bought.1.cls ≠ "java/lang/invoke/MethodHandle" ∧ mX11_bought.1.cls ≠ "java/lang/invoke/VarHandle" ∧ (parseMethodDescriptor mX11_bought.1.desc).map (fun d => d.parameters.length) = some 4) := ⟨tb_g 852 rfl rfl, tb_g 111 (by decide +kernel) rfl, by decide +kernel⟩
theorem c_L_135 : CkM RL 135 mX11_bought 4 := ⟨q_X11_bought.1, q_X11_bought.2.1, q_X11_bought.2.2, Or.inl (tb_g 849 (by decide +kernel) rfl)⟩
theorem k_X9_cordsAt : Cond.instanceMethod mX9_cordsAt.1 ∈ TBg ∧ Cond.selects mX9_cordsAt.1.cls mX9_cordsAt.1 mX9_cordsAt.1 ∈ TBg := ⟨tb_g 855 (by decide +kernel) rfl, tb_g 50 (by decide +kernel) rfl⟩
set_option maxRecDepth 20000 in
theorem q_X9_cordsAt : Cond.code mX9_cordsAt.1 mX9_cordsAt.2.1 mX9_cordsAt.2.2.1 mX9_cordsAt.2.2.2 ∈ TBg ∧ Cond.initialized mX9_cordsAt.1.cls ∈ TBg ∧ (mX9_cordsAt.1.cls ≠ "java/lang/invoke/MethodHandle" ∧ mX9_cordsAt.1.cls ≠ "java/lang/invoke/VarHandle" ∧ (parseMethodDescriptor mX9_cordsAt.1.desc).map (fun d => d.parameters.length) = some 1) := ⟨tb_g 856 rfl rfl, tb_g 122 (by decide +kernel) rfl, by decide +kernel⟩
theorem c_X11_287 : CkM RX11 287 mX9_cordsAt 1 := ⟨q_X9_cordsAt.1, q_X9_cordsAt.2.1, q_X9_cordsAt.2.2, Or.inr ⟨"RiverSteamers", tb_n 853 (by decide +kernel) rfl⟩⟩
theorem c_X9_60 : CkM RX9 60 mX11_isWithin 3 := ⟨q_X11_isWithin.1, q_X11_isWithin.2.1, q_X11_isWithin.2.2, Or.inr ⟨"RiverSteamers", tb_n 857 (by decide +kernel) rfl⟩⟩
theorem k_X9_cordsFrom : Cond.instanceMethod mX9_cordsFrom.1 ∈ TBg ∧ Cond.selects mX9_cordsFrom.1.cls mX9_cordsFrom.1 mX9_cordsFrom.1 ∈ TBg := ⟨tb_g 860 (by decide +kernel) rfl, tb_g 51 (by decide +kernel) rfl⟩
set_option maxRecDepth 20000 in
theorem q_X9_cordsFrom : Cond.code mX9_cordsFrom.1 mX9_cordsFrom.2.1 mX9_cordsFrom.2.2.1 mX9_cordsFrom.2.2.2 ∈ TBg ∧ Cond.initialized mX9_cordsFrom.1.cls ∈ TBg ∧ (mX9_cordsFrom.1.cls ≠ "java/lang/invoke/MethodHandle" ∧ mX9_cordsFrom.1.cls ≠ "java/lang/invoke/VarHandle" ∧ (parseMethodDescriptor mX9_cordsFrom.1.desc).map (fun d => d.parameters.length) = some 2) := ⟨tb_g 861 rfl rfl, tb_g 122 (by decide +kernel) rfl, by decide +kernel⟩
theorem c_X9_64 : CkM RX9 64 mX9_cordsFrom 2 := ⟨q_X9_cordsFrom.1, q_X9_cordsFrom.2.1, q_X9_cordsFrom.2.2, Or.inl (tb_g 858 (by decide +kernel) rfl)⟩
theorem k_X11_lights : Cond.instanceMethod mX11_lights.1 ∈ TBg ∧ Cond.selects mX11_lights.1.cls mX11_lights.1 mX11_lights.1 ∈ TBg := ⟨tb_g 863 (by decide +kernel) rfl, tb_g 864 (by decide +kernel) rfl⟩
set_option maxRecDepth 20000 in
theorem q_X11_lights : Cond.code mX11_lights.1 mX11_lights.2.1 mX11_lights.2.2.1 mX11_lights.2.2.2 ∈ TBg ∧ Cond.initialized mX11_lights.1.cls ∈ TBg ∧ (mX11_lights.1.cls ≠ "java/lang/invoke/MethodHandle" ∧ mX11_lights.1.cls ≠ "java/lang/invoke/VarHandle" ∧ (parseMethodDescriptor mX11_lights.1.desc).map (fun d => d.parameters.length) = some 0) := ⟨tb_g 865 rfl rfl, tb_g 111 (by decide +kernel) rfl, by decide +kernel⟩
theorem c_L_139 : CkM RL 139 mX11_lights 0 := ⟨q_X11_lights.1, q_X11_lights.2.1, q_X11_lights.2.2, Or.inl (tb_g 862 (by decide +kernel) rfl)⟩
theorem k_X4_darkCrossings : Cond.instanceMethod mX4_darkCrossings.1 ∈ TBg ∧ Cond.selects mX4_darkCrossings.1.cls mX4_darkCrossings.1 mX4_darkCrossings.1 ∈ TBg := ⟨tb_g 868 (by decide +kernel) rfl, tb_g 52 (by decide +kernel) rfl⟩
set_option maxRecDepth 20000 in
theorem q_X4_darkCrossings : Cond.code mX4_darkCrossings.1 mX4_darkCrossings.2.1 mX4_darkCrossings.2.2.1 mX4_darkCrossings.2.2.2 ∈ TBg ∧ Cond.initialized mX4_darkCrossings.1.cls ∈ TBg ∧ (mX4_darkCrossings.1.cls ≠ "java/lang/invoke/MethodHandle" ∧ mX4_darkCrossings.1.cls ≠ "java/lang/invoke/VarHandle" ∧ (parseMethodDescriptor mX4_darkCrossings.1.desc).map (fun d => d.parameters.length) = some 0) := ⟨tb_g 869 rfl rfl, tb_g 112 (by decide +kernel) rfl, by decide +kernel⟩
theorem c_X11_290 : CkM RX11 290 mX4_darkCrossings 0 := ⟨q_X4_darkCrossings.1, q_X4_darkCrossings.2.1, q_X4_darkCrossings.2.2, Or.inr ⟨"RiverSteamers", tb_n 866 (by decide +kernel) rfl⟩⟩
theorem k_J_bitCount : Cond.static mJ_bitCount.1 ∈ TBg := tb_g 871 (by decide +kernel) rfl
set_option maxRecDepth 20000 in
theorem q_J_bitCount : Cond.code mJ_bitCount.1 mJ_bitCount.2.1 mJ_bitCount.2.2.1 mJ_bitCount.2.2.2 ∈ TBg ∧ Cond.initialized mJ_bitCount.1.cls ∈ TBg ∧ (mJ_bitCount.1.cls ≠ "java/lang/invoke/MethodHandle" ∧ mJ_bitCount.1.cls ≠ "java/lang/invoke/VarHandle" ∧ (parseMethodDescriptor mJ_bitCount.1.desc).map (fun d => d.parameters.length) = some 1) := ⟨tb_g 872 rfl rfl, tb_g 127 (by decide +kernel) rfl, by decide +kernel⟩
theorem c_X11_293 : CkM RX11 293 mJ_bitCount 1 := ⟨q_J_bitCount.1, q_J_bitCount.2.1, q_J_bitCount.2.2, Or.inl (tb_g 870 (by decide +kernel) rfl)⟩
theorem k_X4_tripsBear : Cond.instanceMethod mX4_tripsBear.1 ∈ TBg ∧ Cond.selects mX4_tripsBear.1.cls mX4_tripsBear.1 mX4_tripsBear.1 ∈ TBg := ⟨tb_g 878 (by decide +kernel) rfl, tb_g 53 (by decide +kernel) rfl⟩
set_option maxRecDepth 20000 in
theorem q_X4_tripsBear : Cond.code mX4_tripsBear.1 mX4_tripsBear.2.1 mX4_tripsBear.2.2.1 mX4_tripsBear.2.2.2 ∈ TBg ∧ Cond.initialized mX4_tripsBear.1.cls ∈ TBg ∧ (mX4_tripsBear.1.cls ≠ "java/lang/invoke/MethodHandle" ∧ mX4_tripsBear.1.cls ≠ "java/lang/invoke/VarHandle" ∧ (parseMethodDescriptor mX4_tripsBear.1.desc).map (fun d => d.parameters.length) = some 1) := ⟨tb_g 879 rfl rfl, tb_g 112 (by decide +kernel) rfl, by decide +kernel⟩
theorem c_X11_298 : CkM RX11 298 mX4_tripsBear 1 := ⟨q_X4_tripsBear.1, q_X4_tripsBear.2.1, q_X4_tripsBear.2.2, Or.inr ⟨"RiverSteamers", tb_n 876 (by decide +kernel) rfl⟩⟩
theorem k_X8_wayBits : Cond.instanceMethod mX8_wayBits.1 ∈ TBg ∧ Cond.selects mX8_wayBits.1.cls mX8_wayBits.1 mX8_wayBits.1 ∈ TBg := ⟨tb_g 882 (by decide +kernel) rfl, tb_g 54 (by decide +kernel) rfl⟩
set_option maxRecDepth 20000 in
theorem q_X8_wayBits : Cond.code mX8_wayBits.1 mX8_wayBits.2.1 mX8_wayBits.2.2.1 mX8_wayBits.2.2.2 ∈ TBg ∧ Cond.initialized mX8_wayBits.1.cls ∈ TBg ∧ (mX8_wayBits.1.cls ≠ "java/lang/invoke/MethodHandle" ∧ mX8_wayBits.1.cls ≠ "java/lang/invoke/VarHandle" ∧ (parseMethodDescriptor mX8_wayBits.1.desc).map (fun d => d.parameters.length) = some 0) := ⟨tb_g 883 rfl rfl, tb_g 119 (by decide +kernel) rfl, by decide +kernel⟩
theorem c_X4_225 : CkM RX4 225 mX8_wayBits 0 := ⟨q_X8_wayBits.1, q_X8_wayBits.2.1, q_X8_wayBits.2.2, Or.inr ⟨"RiverSteamers", tb_n 880 (by decide +kernel) rfl⟩⟩
theorem k_J_max : Cond.static mJ_max.1 ∈ TBg := tb_g 885 (by decide +kernel) rfl
set_option maxRecDepth 20000 in
theorem q_J_max : Cond.code mJ_max.1 mJ_max.2.1 mJ_max.2.2.1 mJ_max.2.2.2 ∈ TBg ∧ Cond.initialized mJ_max.1.cls ∈ TBg ∧ (mJ_max.1.cls ≠ "java/lang/invoke/MethodHandle" ∧ mJ_max.1.cls ≠ "java/lang/invoke/VarHandle" ∧ (parseMethodDescriptor mJ_max.1.desc).map (fun d => d.parameters.length) = some 2) := ⟨tb_g 886 rfl rfl, tb_g 126 (by decide +kernel) rfl, by decide +kernel⟩
theorem c_X8_23 : CkM RX8 23 mJ_max 2 := ⟨q_J_max.1, q_J_max.2.1, q_J_max.2.2, Or.inl (tb_g 884 (by decide +kernel) rfl)⟩
theorem c_X8_29 : CkM RX8 29 mJ_min 2 := ⟨q_J_min.1, q_J_min.2.1, q_J_min.2.2, Or.inl (tb_g 887 (by decide +kernel) rfl)⟩
theorem c_X4_228 : CkM RX4 228 mJ_bitCount 1 := ⟨q_J_bitCount.1, q_J_bitCount.2.1, q_J_bitCount.2.2, Or.inl (tb_g 888 (by decide +kernel) rfl)⟩
theorem k_X11_gives : Cond.instanceMethod mX11_gives.1 ∈ TBg ∧ Cond.selects mX11_gives.1.cls mX11_gives.1 mX11_gives.1 ∈ TBg := ⟨tb_g 890 (by decide +kernel) rfl, tb_g 891 (by decide +kernel) rfl⟩
set_option maxRecDepth 20000 in
theorem q_X11_gives : Cond.code mX11_gives.1 mX11_gives.2.1 mX11_gives.2.2.1 mX11_gives.2.2.2 ∈ TBg ∧ Cond.initialized mX11_gives.1.cls ∈ TBg ∧ (mX11_gives.1.cls ≠ "java/lang/invoke/MethodHandle" ∧ mX11_gives.1.cls ≠ "java/lang/invoke/VarHandle" ∧ (parseMethodDescriptor mX11_gives.1.desc).map (fun d => d.parameters.length) = some 5) := ⟨tb_g 892 rfl rfl, tb_g 111 (by decide +kernel) rfl, by decide +kernel⟩
theorem c_L_143 : CkM RL 143 mX11_gives 5 := ⟨q_X11_gives.1, q_X11_gives.2.1, q_X11_gives.2.2, Or.inl (tb_g 889 (by decide +kernel) rfl)⟩
theorem k_X5_isInForce : Cond.instanceMethod mX5_isInForce.1 ∈ TBg ∧ Cond.selects mX5_isInForce.1.cls mX5_isInForce.1 mX5_isInForce.1 ∈ TBg := ⟨tb_g 895 (by decide +kernel) rfl, tb_g 55 (by decide +kernel) rfl⟩
set_option maxRecDepth 20000 in
theorem q_X5_isInForce : Cond.code mX5_isInForce.1 mX5_isInForce.2.1 mX5_isInForce.2.2.1 mX5_isInForce.2.2.2 ∈ TBg ∧ Cond.initialized mX5_isInForce.1.cls ∈ TBg ∧ (mX5_isInForce.1.cls ≠ "java/lang/invoke/MethodHandle" ∧ mX5_isInForce.1.cls ≠ "java/lang/invoke/VarHandle" ∧ (parseMethodDescriptor mX5_isInForce.1.desc).map (fun d => d.parameters.length) = some 1) := ⟨tb_g 896 rfl rfl, tb_g 120 (by decide +kernel) rfl, by decide +kernel⟩
theorem c_X11_301 : CkM RX11 301 mX5_isInForce 1 := ⟨q_X5_isInForce.1, q_X5_isInForce.2.1, q_X5_isInForce.2.2, Or.inr ⟨"RiverSteamers", tb_n 893 (by decide +kernel) rfl⟩⟩
theorem c_X5_26 : CkM RX5 26 mX11_isWithin 3 := ⟨q_X11_isWithin.1, q_X11_isWithin.2.1, q_X11_isWithin.2.2, Or.inr ⟨"RiverSteamers", tb_n 897 (by decide +kernel) rfl⟩⟩
theorem k_X11_yieldingBy : Cond.instanceMethod mX11_yieldingBy.1 ∈ TBg ∧ Cond.selects mX11_yieldingBy.1.cls mX11_yieldingBy.1 mX11_yieldingBy.1 ∈ TBg := ⟨tb_g 900 (by decide +kernel) rfl, tb_g 56 (by decide +kernel) rfl⟩
set_option maxRecDepth 20000 in
theorem q_X11_yieldingBy : Cond.code mX11_yieldingBy.1 mX11_yieldingBy.2.1 mX11_yieldingBy.2.2.1 mX11_yieldingBy.2.2.2 ∈ TBg ∧ Cond.initialized mX11_yieldingBy.1.cls ∈ TBg ∧ (mX11_yieldingBy.1.cls ≠ "java/lang/invoke/MethodHandle" ∧ mX11_yieldingBy.1.cls ≠ "java/lang/invoke/VarHandle" ∧ (parseMethodDescriptor mX11_yieldingBy.1.desc).map (fun d => d.parameters.length) = some 5) := ⟨tb_g 901 rfl rfl, tb_g 111 (by decide +kernel) rfl, by decide +kernel⟩
theorem c_X11_306 : CkM RX11 306 mX11_yieldingBy 5 := ⟨q_X11_yieldingBy.1, q_X11_yieldingBy.2.1, q_X11_yieldingBy.2.2, Or.inl (tb_g 898 (by decide +kernel) rfl)⟩
theorem c_X11_372 : CkM RX11 372 mJ_max 2 := ⟨q_J_max.1, q_J_max.2.1, q_J_max.2.2, Or.inl (tb_g 902 (by decide +kernel) rfl)⟩
theorem k_X11_count : Cond.instanceMethod mX11_count.1 ∈ TBg ∧ Cond.selects mX11_count.1.cls mX11_count.1 mX11_count.1 ∈ TBg := ⟨tb_g 904 (by decide +kernel) rfl, tb_g 905 (by decide +kernel) rfl⟩
set_option maxRecDepth 20000 in
theorem q_X11_count : Cond.code mX11_count.1 mX11_count.2.1 mX11_count.2.2.1 mX11_count.2.2.2 ∈ TBg ∧ Cond.initialized mX11_count.1.cls ∈ TBg ∧ (mX11_count.1.cls ≠ "java/lang/invoke/MethodHandle" ∧ mX11_count.1.cls ≠ "java/lang/invoke/VarHandle" ∧ (parseMethodDescriptor mX11_count.1.desc).map (fun d => d.parameters.length) = some 1) := ⟨tb_g 906 rfl rfl, tb_g 111 (by decide +kernel) rfl, by decide +kernel⟩
theorem c_L_148 : CkM RL 148 mX11_count 1 := ⟨q_X11_count.1, q_X11_count.2.1, q_X11_count.2.2, Or.inl (tb_g 903 (by decide +kernel) rfl)⟩
theorem k_X4_boatsAground : Cond.instanceMethod mX4_boatsAground.1 ∈ TBg ∧ Cond.selects mX4_boatsAground.1.cls mX4_boatsAground.1 mX4_boatsAground.1 ∈ TBg := ⟨tb_g 909 (by decide +kernel) rfl, tb_g 57 (by decide +kernel) rfl⟩
set_option maxRecDepth 20000 in
theorem q_X4_boatsAground : Cond.code mX4_boatsAground.1 mX4_boatsAground.2.1 mX4_boatsAground.2.2.1 mX4_boatsAground.2.2.2 ∈ TBg ∧ Cond.initialized mX4_boatsAground.1.cls ∈ TBg ∧ (mX4_boatsAground.1.cls ≠ "java/lang/invoke/MethodHandle" ∧ mX4_boatsAground.1.cls ≠ "java/lang/invoke/VarHandle" ∧ (parseMethodDescriptor mX4_boatsAground.1.desc).map (fun d => d.parameters.length) = some 0) := ⟨tb_g 910 rfl rfl, tb_g 112 (by decide +kernel) rfl, by decide +kernel⟩
theorem c_X11_310 : CkM RX11 310 mX4_boatsAground 0 := ⟨q_X4_boatsAground.1, q_X4_boatsAground.2.1, q_X4_boatsAground.2.2, Or.inr ⟨"RiverSteamers", tb_n 907 (by decide +kernel) rfl⟩⟩
theorem c_X11_313 : CkM RX11 313 mX4_isNight 0 := ⟨q_X4_isNight.1, q_X4_isNight.2.1, q_X4_isNight.2.2, Or.inr ⟨"RiverSteamers", tb_n 911 (by decide +kernel) rfl⟩⟩
theorem k_X11_act : Cond.instanceMethod mX11_act.1 ∈ TBg ∧ Cond.selects mX11_act.1.cls mX11_act.1 mX11_act.1 ∈ TBg := ⟨tb_g 913 (by decide +kernel) rfl, tb_g 914 (by decide +kernel) rfl⟩
set_option maxRecDepth 20000 in
theorem q_X11_act : Cond.code mX11_act.1 mX11_act.2.1 mX11_act.2.2.1 mX11_act.2.2.2 ∈ TBg ∧ Cond.initialized mX11_act.1.cls ∈ TBg ∧ (mX11_act.1.cls ≠ "java/lang/invoke/MethodHandle" ∧ mX11_act.1.cls ≠ "java/lang/invoke/VarHandle" ∧ (parseMethodDescriptor mX11_act.1.desc).map (fun d => d.parameters.length) = some 3) := ⟨tb_g 915 rfl rfl, tb_g 111 (by decide +kernel) rfl, by decide +kernel⟩
theorem c_L_152 : CkM RL 152 mX11_act 3 := ⟨q_X11_act.1, q_X11_act.2.1, q_X11_act.2.2, Or.inl (tb_g 912 (by decide +kernel) rfl)⟩
theorem k_X0_begin : Cond.instanceMethod mX0_begin.1 ∈ TBg ∧ Cond.selects mX0_begin.1.cls mX0_begin.1 mX0_begin.1 ∈ TBg := ⟨tb_g 918 (by decide +kernel) rfl, tb_g 58 (by decide +kernel) rfl⟩
set_option maxRecDepth 20000 in
theorem q_X0_begin : Cond.code mX0_begin.1 mX0_begin.2.1 mX0_begin.2.2.1 mX0_begin.2.2.2 ∈ TBg ∧ Cond.initialized mX0_begin.1.cls ∈ TBg ∧ (mX0_begin.1.cls ≠ "java/lang/invoke/MethodHandle" ∧ mX0_begin.1.cls ≠ "java/lang/invoke/VarHandle" ∧ (parseMethodDescriptor mX0_begin.1.desc).map (fun d => d.parameters.length) = some 3) := ⟨tb_g 919 rfl rfl, tb_g 121 (by decide +kernel) rfl, by decide +kernel⟩
theorem c_X11_319 : CkM RX11 319 mX0_begin 3 := ⟨q_X0_begin.1, q_X0_begin.2.1, q_X0_begin.2.2, Or.inr ⟨"RiverSteamers", tb_n 916 (by decide +kernel) rfl⟩⟩
theorem k_X0_run : Cond.instanceMethod mX0_run.1 ∈ TBg ∧ Cond.selects mX0_run.1.cls mX0_run.1 mX0_run.1 ∈ TBg := ⟨tb_g 922 (by decide +kernel) rfl, tb_g 59 (by decide +kernel) rfl⟩
set_option maxRecDepth 20000 in
theorem q_X0_run : Cond.code mX0_run.1 mX0_run.2.1 mX0_run.2.2.1 mX0_run.2.2.2 ∈ TBg ∧ Cond.initialized mX0_run.1.cls ∈ TBg ∧ (mX0_run.1.cls ≠ "java/lang/invoke/MethodHandle" ∧ mX0_run.1.cls ≠ "java/lang/invoke/VarHandle" ∧ (parseMethodDescriptor mX0_run.1.desc).map (fun d => d.parameters.length) = some 5) := ⟨tb_g 923 rfl rfl, tb_g 121 (by decide +kernel) rfl, by decide +kernel⟩
theorem c_X0_24 : CkM RX0 24 mX0_run 5 := ⟨q_X0_run.1, q_X0_run.2.1, q_X0_run.2.2, Or.inl (tb_g 920 (by decide +kernel) rfl)⟩
theorem k_X0_kindWithBody : Cond.static mX0_kindWithBody.1 ∈ TBg := tb_g 925 (by decide +kernel) rfl
set_option maxRecDepth 20000 in
theorem q_X0_kindWithBody : Cond.code mX0_kindWithBody.1 mX0_kindWithBody.2.1 mX0_kindWithBody.2.2.1 mX0_kindWithBody.2.2.2 ∈ TBg ∧ Cond.initialized mX0_kindWithBody.1.cls ∈ TBg ∧ (mX0_kindWithBody.1.cls ≠ "java/lang/invoke/MethodHandle" ∧ mX0_kindWithBody.1.cls ≠ "java/lang/invoke/VarHandle" ∧ (parseMethodDescriptor mX0_kindWithBody.1.desc).map (fun d => d.parameters.length) = some 2) := ⟨tb_g 926 rfl rfl, tb_g 121 (by decide +kernel) rfl, by decide +kernel⟩
theorem c_X0_34 : CkM RX0 34 mX0_kindWithBody 2 := ⟨q_X0_kindWithBody.1, q_X0_kindWithBody.2.1, q_X0_kindWithBody.2.2, Or.inl (tb_g 924 (by decide +kernel) rfl)⟩
theorem k_X0_note : Cond.instanceMethod mX0_note.1 ∈ TBg ∧ Cond.selects mX0_note.1.cls mX0_note.1 mX0_note.1 ∈ TBg := ⟨tb_g 932 (by decide +kernel) rfl, tb_g 60 (by decide +kernel) rfl⟩
set_option maxRecDepth 20000 in
theorem q_X0_note : Cond.code mX0_note.1 mX0_note.2.1 mX0_note.2.2.1 mX0_note.2.2.2 ∈ TBg ∧ Cond.initialized mX0_note.1.cls ∈ TBg ∧ (mX0_note.1.cls ≠ "java/lang/invoke/MethodHandle" ∧ mX0_note.1.cls ≠ "java/lang/invoke/VarHandle" ∧ (parseMethodDescriptor mX0_note.1.desc).map (fun d => d.parameters.length) = some 1) := ⟨tb_g 933 rfl rfl, tb_g 121 (by decide +kernel) rfl, by decide +kernel⟩
theorem c_X0_38 : CkM RX0 38 mX0_note 1 := ⟨q_X0_note.1, q_X0_note.2.1, q_X0_note.2.2, Or.inl (tb_g 930 (by decide +kernel) rfl)⟩
theorem k_X11_trace : Cond.instanceMethod mX11_trace.1 ∈ TBg ∧ Cond.selects mX11_trace.1.cls mX11_trace.1 mX11_trace.1 ∈ TBg := ⟨tb_g 935 (by decide +kernel) rfl, tb_g 936 (by decide +kernel) rfl⟩
set_option maxRecDepth 20000 in
theorem q_X11_trace : Cond.code mX11_trace.1 mX11_trace.2.1 mX11_trace.2.2.1 mX11_trace.2.2.2 ∈ TBg ∧ Cond.initialized mX11_trace.1.cls ∈ TBg ∧ (mX11_trace.1.cls ≠ "java/lang/invoke/MethodHandle" ∧ mX11_trace.1.cls ≠ "java/lang/invoke/VarHandle" ∧ (parseMethodDescriptor mX11_trace.1.desc).map (fun d => d.parameters.length) = some 1) := ⟨tb_g 937 rfl rfl, tb_g 111 (by decide +kernel) rfl, by decide +kernel⟩
theorem c_L_156 : CkM RL 156 mX11_trace 1 := ⟨q_X11_trace.1, q_X11_trace.2.1, q_X11_trace.2.2, Or.inl (tb_g 934 (by decide +kernel) rfl)⟩
theorem k_X11_sheet : Cond.instanceMethod mX11_sheet.1 ∈ TBg ∧ Cond.selects mX11_sheet.1.cls mX11_sheet.1 mX11_sheet.1 ∈ TBg := ⟨tb_g 939 (by decide +kernel) rfl, tb_g 940 (by decide +kernel) rfl⟩
set_option maxRecDepth 20000 in
theorem q_X11_sheet : Cond.code mX11_sheet.1 mX11_sheet.2.1 mX11_sheet.2.2.1 mX11_sheet.2.2.2 ∈ TBg ∧ Cond.initialized mX11_sheet.1.cls ∈ TBg ∧ (mX11_sheet.1.cls ≠ "java/lang/invoke/MethodHandle" ∧ mX11_sheet.1.cls ≠ "java/lang/invoke/VarHandle" ∧ (parseMethodDescriptor mX11_sheet.1.desc).map (fun d => d.parameters.length) = some 3) := ⟨tb_g 941 rfl rfl, tb_g 111 (by decide +kernel) rfl, by decide +kernel⟩
theorem c_L_160 : CkM RL 160 mX11_sheet 3 := ⟨q_X11_sheet.1, q_X11_sheet.2.1, q_X11_sheet.2.2, Or.inl (tb_g 938 (by decide +kernel) rfl)⟩
theorem k_X11_isSheet : Cond.static mX11_isSheet.1 ∈ TBg := tb_g 943 (by decide +kernel) rfl
set_option maxRecDepth 20000 in
theorem q_X11_isSheet : Cond.code mX11_isSheet.1 mX11_isSheet.2.1 mX11_isSheet.2.2.1 mX11_isSheet.2.2.2 ∈ TBg ∧ Cond.initialized mX11_isSheet.1.cls ∈ TBg ∧ (mX11_isSheet.1.cls ≠ "java/lang/invoke/MethodHandle" ∧ mX11_isSheet.1.cls ≠ "java/lang/invoke/VarHandle" ∧ (parseMethodDescriptor mX11_isSheet.1.desc).map (fun d => d.parameters.length) = some 1) := ⟨tb_g 944 rfl rfl, tb_g 111 (by decide +kernel) rfl, by decide +kernel⟩
theorem c_X11_325 : CkM RX11 325 mX11_isSheet 1 := ⟨q_X11_isSheet.1, q_X11_isSheet.2.1, q_X11_isSheet.2.2, Or.inl (tb_g 942 (by decide +kernel) rfl)⟩
theorem k_X6_begin : Cond.instanceMethod mX6_begin.1 ∈ TBg ∧ Cond.selects mX6_begin.1.cls mX6_begin.1 mX6_begin.1 ∈ TBg := ⟨tb_g 947 (by decide +kernel) rfl, tb_g 61 (by decide +kernel) rfl⟩
set_option maxRecDepth 20000 in
theorem q_X6_begin : Cond.code mX6_begin.1 mX6_begin.2.1 mX6_begin.2.2.1 mX6_begin.2.2.2 ∈ TBg ∧ Cond.initialized mX6_begin.1.cls ∈ TBg ∧ (mX6_begin.1.cls ≠ "java/lang/invoke/MethodHandle" ∧ mX6_begin.1.cls ≠ "java/lang/invoke/VarHandle" ∧ (parseMethodDescriptor mX6_begin.1.desc).map (fun d => d.parameters.length) = some 2) := ⟨tb_g 948 rfl rfl, tb_g 123 (by decide +kernel) rfl, by decide +kernel⟩
theorem c_X11_328 : CkM RX11 328 mX6_begin 2 := ⟨q_X6_begin.1, q_X6_begin.2.1, q_X6_begin.2.2, Or.inr ⟨"RiverSteamers", tb_n 945 (by decide +kernel) rfl⟩⟩
theorem c_X6_22 : CkM RX6 22 mJ_fill 2 := ⟨q_J_fill.1, q_J_fill.2.1, q_J_fill.2.2, Or.inl (tb_g 949 (by decide +kernel) rfl)⟩
theorem k_X11_cell : Cond.instanceMethod mX11_cell.1 ∈ TBg ∧ Cond.selects mX11_cell.1.cls mX11_cell.1 mX11_cell.1 ∈ TBg := ⟨tb_g 951 (by decide +kernel) rfl, tb_g 952 (by decide +kernel) rfl⟩
set_option maxRecDepth 20000 in
theorem q_X11_cell : Cond.code mX11_cell.1 mX11_cell.2.1 mX11_cell.2.2.1 mX11_cell.2.2.2 ∈ TBg ∧ Cond.initialized mX11_cell.1.cls ∈ TBg ∧ (mX11_cell.1.cls ≠ "java/lang/invoke/MethodHandle" ∧ mX11_cell.1.cls ≠ "java/lang/invoke/VarHandle" ∧ (parseMethodDescriptor mX11_cell.1.desc).map (fun d => d.parameters.length) = some 3) := ⟨tb_g 953 rfl rfl, tb_g 111 (by decide +kernel) rfl, by decide +kernel⟩
theorem c_L_164 : CkM RL 164 mX11_cell 3 := ⟨q_X11_cell.1, q_X11_cell.2.1, q_X11_cell.2.2, Or.inl (tb_g 950 (by decide +kernel) rfl)⟩
theorem k_X6_isMissing : Cond.instanceMethod mX6_isMissing.1 ∈ TBg ∧ Cond.selects mX6_isMissing.1.cls mX6_isMissing.1 mX6_isMissing.1 ∈ TBg := ⟨tb_g 956 (by decide +kernel) rfl, tb_g 62 (by decide +kernel) rfl⟩
set_option maxRecDepth 20000 in
theorem q_X6_isMissing : Cond.code mX6_isMissing.1 mX6_isMissing.2.1 mX6_isMissing.2.2.1 mX6_isMissing.2.2.2 ∈ TBg ∧ Cond.initialized mX6_isMissing.1.cls ∈ TBg ∧ (mX6_isMissing.1.cls ≠ "java/lang/invoke/MethodHandle" ∧ mX6_isMissing.1.cls ≠ "java/lang/invoke/VarHandle" ∧ (parseMethodDescriptor mX6_isMissing.1.desc).map (fun d => d.parameters.length) = some 0) := ⟨tb_g 957 rfl rfl, tb_g 123 (by decide +kernel) rfl, by decide +kernel⟩
theorem c_X11_330 : CkM RX11 330 mX6_isMissing 0 := ⟨q_X6_isMissing.1, q_X6_isMissing.2.1, q_X6_isMissing.2.2, Or.inr ⟨"RiverSteamers", tb_n 954 (by decide +kernel) rfl⟩⟩
theorem k_X6_hasPlace : Cond.instanceMethod mX6_hasPlace.1 ∈ TBg ∧ Cond.selects mX6_hasPlace.1.cls mX6_hasPlace.1 mX6_hasPlace.1 ∈ TBg := ⟨tb_g 960 (by decide +kernel) rfl, tb_g 63 (by decide +kernel) rfl⟩
set_option maxRecDepth 20000 in
theorem q_X6_hasPlace : Cond.code mX6_hasPlace.1 mX6_hasPlace.2.1 mX6_hasPlace.2.2.1 mX6_hasPlace.2.2.2 ∈ TBg ∧ Cond.initialized mX6_hasPlace.1.cls ∈ TBg ∧ (mX6_hasPlace.1.cls ≠ "java/lang/invoke/MethodHandle" ∧ mX6_hasPlace.1.cls ≠ "java/lang/invoke/VarHandle" ∧ (parseMethodDescriptor mX6_hasPlace.1.desc).map (fun d => d.parameters.length) = some 1) := ⟨tb_g 961 rfl rfl, tb_g 123 (by decide +kernel) rfl, by decide +kernel⟩
theorem c_X11_333 : CkM RX11 333 mX6_hasPlace 1 := ⟨q_X6_hasPlace.1, q_X6_hasPlace.2.1, q_X6_hasPlace.2.2, Or.inr ⟨"RiverSteamers", tb_n 958 (by decide +kernel) rfl⟩⟩
theorem c_X6_28 : CkM RX6 28 mX11_isWithin 3 := ⟨q_X11_isWithin.1, q_X11_isWithin.2.1, q_X11_isWithin.2.2, Or.inr ⟨"RiverSteamers", tb_n 962 (by decide +kernel) rfl⟩⟩
theorem k_X6_put : Cond.instanceMethod mX6_put.1 ∈ TBg ∧ Cond.selects mX6_put.1.cls mX6_put.1 mX6_put.1 ∈ TBg := ⟨tb_g 965 (by decide +kernel) rfl, tb_g 64 (by decide +kernel) rfl⟩
set_option maxRecDepth 20000 in
theorem q_X6_put : Cond.code mX6_put.1 mX6_put.2.1 mX6_put.2.2.1 mX6_put.2.2.2 ∈ TBg ∧ Cond.initialized mX6_put.1.cls ∈ TBg ∧ (mX6_put.1.cls ≠ "java/lang/invoke/MethodHandle" ∧ mX6_put.1.cls ≠ "java/lang/invoke/VarHandle" ∧ (parseMethodDescriptor mX6_put.1.desc).map (fun d => d.parameters.length) = some 2) := ⟨tb_g 966 rfl rfl, tb_g 123 (by decide +kernel) rfl, by decide +kernel⟩
theorem c_X11_336 : CkM RX11 336 mX6_put 2 := ⟨q_X6_put.1, q_X6_put.2.1, q_X6_put.2.2, Or.inr ⟨"RiverSteamers", tb_n 963 (by decide +kernel) rfl⟩⟩
theorem k_X11_none : Cond.instanceMethod mX11_none.1 ∈ TBg ∧ Cond.selects mX11_none.1.cls mX11_none.1 mX11_none.1 ∈ TBg := ⟨tb_g 968 (by decide +kernel) rfl, tb_g 969 (by decide +kernel) rfl⟩
set_option maxRecDepth 20000 in
theorem q_X11_none : Cond.code mX11_none.1 mX11_none.2.1 mX11_none.2.2.1 mX11_none.2.2.2 ∈ TBg ∧ Cond.initialized mX11_none.1.cls ∈ TBg ∧ (mX11_none.1.cls ≠ "java/lang/invoke/MethodHandle" ∧ mX11_none.1.cls ≠ "java/lang/invoke/VarHandle" ∧ (parseMethodDescriptor mX11_none.1.desc).map (fun d => d.parameters.length) = some 2) := ⟨tb_g 970 rfl rfl, tb_g 111 (by decide +kernel) rfl, by decide +kernel⟩
theorem c_L_168 : CkM RL 168 mX11_none 2 := ⟨q_X11_none.1, q_X11_none.2.1, q_X11_none.2.2, Or.inl (tb_g 967 (by decide +kernel) rfl)⟩
theorem k_X6_faultAs : Cond.instanceMethod mX6_faultAs.1 ∈ TBg ∧ Cond.selects mX6_faultAs.1.cls mX6_faultAs.1 mX6_faultAs.1 ∈ TBg := ⟨tb_g 973 (by decide +kernel) rfl, tb_g 65 (by decide +kernel) rfl⟩
set_option maxRecDepth 20000 in
theorem q_X6_faultAs : Cond.code mX6_faultAs.1 mX6_faultAs.2.1 mX6_faultAs.2.2.1 mX6_faultAs.2.2.2 ∈ TBg ∧ Cond.initialized mX6_faultAs.1.cls ∈ TBg ∧ (mX6_faultAs.1.cls ≠ "java/lang/invoke/MethodHandle" ∧ mX6_faultAs.1.cls ≠ "java/lang/invoke/VarHandle" ∧ (parseMethodDescriptor mX6_faultAs.1.desc).map (fun d => d.parameters.length) = some 1) := ⟨tb_g 974 rfl rfl, tb_g 123 (by decide +kernel) rfl, by decide +kernel⟩
theorem c_X11_339 : CkM RX11 339 mX6_faultAs 1 := ⟨q_X6_faultAs.1, q_X6_faultAs.2.1, q_X6_faultAs.2.2, Or.inr ⟨"RiverSteamers", tb_n 971 (by decide +kernel) rfl⟩⟩
theorem c_X6_32 : CkM RX6 32 mX6_isMissing 0 := ⟨q_X6_isMissing.1, q_X6_isMissing.2.1, q_X6_isMissing.2.2, Or.inl (tb_g 975 (by decide +kernel) rfl)⟩
theorem k_X11_gauges : Cond.instanceMethod mX11_gauges.1 ∈ TBg ∧ Cond.selects mX11_gauges.1.cls mX11_gauges.1 mX11_gauges.1 ∈ TBg := ⟨tb_g 977 (by decide +kernel) rfl, tb_g 978 (by decide +kernel) rfl⟩
set_option maxRecDepth 20000 in
theorem q_X11_gauges : Cond.code mX11_gauges.1 mX11_gauges.2.1 mX11_gauges.2.2.1 mX11_gauges.2.2.2 ∈ TBg ∧ Cond.initialized mX11_gauges.1.cls ∈ TBg ∧ (mX11_gauges.1.cls ≠ "java/lang/invoke/MethodHandle" ∧ mX11_gauges.1.cls ≠ "java/lang/invoke/VarHandle" ∧ (parseMethodDescriptor mX11_gauges.1.desc).map (fun d => d.parameters.length) = some 4) := ⟨tb_g 979 rfl rfl, tb_g 111 (by decide +kernel) rfl, by decide +kernel⟩
theorem c_L_172 : CkM RL 172 mX11_gauges 4 := ⟨q_X11_gauges.1, q_X11_gauges.2.1, q_X11_gauges.2.2, Or.inl (tb_g 976 (by decide +kernel) rfl)⟩
theorem k_X11_tellFromFloat : Cond.instanceMethod mX11_tellFromFloat.1 ∈ TBg ∧ Cond.selects mX11_tellFromFloat.1.cls mX11_tellFromFloat.1 mX11_tellFromFloat.1 ∈ TBg := ⟨tb_g 982 (by decide +kernel) rfl, tb_g 66 (by decide +kernel) rfl⟩
set_option maxRecDepth 20000 in
theorem q_X11_tellFromFloat : Cond.code mX11_tellFromFloat.1 mX11_tellFromFloat.2.1 mX11_tellFromFloat.2.2.1 mX11_tellFromFloat.2.2.2 ∈ TBg ∧ Cond.initialized mX11_tellFromFloat.1.cls ∈ TBg ∧ (mX11_tellFromFloat.1.cls ≠ "java/lang/invoke/MethodHandle" ∧ mX11_tellFromFloat.1.cls ≠ "java/lang/invoke/VarHandle" ∧ (parseMethodDescriptor mX11_tellFromFloat.1.desc).map (fun d => d.parameters.length) = some 2) := ⟨tb_g 983 rfl rfl, tb_g 111 (by decide +kernel) rfl, by decide +kernel⟩
theorem c_X11_345 : CkM RX11 345 mX11_tellFromFloat 2 := ⟨q_X11_tellFromFloat.1, q_X11_tellFromFloat.2.1, q_X11_tellFromFloat.2.2, Or.inl (tb_g 980 (by decide +kernel) rfl)⟩
theorem k_X11_forge : Cond.instanceMethod mX11_forge.1 ∈ TBg ∧ Cond.selects mX11_forge.1.cls mX11_forge.1 mX11_forge.1 ∈ TBg := ⟨tb_g 985 (by decide +kernel) rfl, tb_g 986 (by decide +kernel) rfl⟩
set_option maxRecDepth 20000 in
theorem q_X11_forge : Cond.code mX11_forge.1 mX11_forge.2.1 mX11_forge.2.2.1 mX11_forge.2.2.2 ∈ TBg ∧ Cond.initialized mX11_forge.1.cls ∈ TBg ∧ (mX11_forge.1.cls ≠ "java/lang/invoke/MethodHandle" ∧ mX11_forge.1.cls ≠ "java/lang/invoke/VarHandle" ∧ (parseMethodDescriptor mX11_forge.1.desc).map (fun d => d.parameters.length) = some 3) := ⟨tb_g 987 rfl rfl, tb_g 111 (by decide +kernel) rfl, by decide +kernel⟩
theorem c_L_176 : CkM RL 176 mX11_forge 3 := ⟨q_X11_forge.1, q_X11_forge.2.1, q_X11_forge.2.2, Or.inl (tb_g 984 (by decide +kernel) rfl)⟩
theorem k_J_floorMod : Cond.static mJ_floorMod.1 ∈ TBg := tb_g 989 (by decide +kernel) rfl
set_option maxRecDepth 20000 in
theorem q_J_floorMod : Cond.code mJ_floorMod.1 mJ_floorMod.2.1 mJ_floorMod.2.2.1 mJ_floorMod.2.2.2 ∈ TBg ∧ Cond.initialized mJ_floorMod.1.cls ∈ TBg ∧ (mJ_floorMod.1.cls ≠ "java/lang/invoke/MethodHandle" ∧ mJ_floorMod.1.cls ≠ "java/lang/invoke/VarHandle" ∧ (parseMethodDescriptor mJ_floorMod.1.desc).map (fun d => d.parameters.length) = some 2) := ⟨tb_g 990 rfl rfl, tb_g 126 (by decide +kernel) rfl, by decide +kernel⟩
theorem c_X11_348 : CkM RX11 348 mJ_floorMod 2 := ⟨q_J_floorMod.1, q_J_floorMod.2.1, q_J_floorMod.2.2, Or.inl (tb_g 988 (by decide +kernel) rfl)⟩
theorem k_X11_forgeKind : Cond.instanceMethod mX11_forgeKind.1 ∈ TBg ∧ Cond.selects mX11_forgeKind.1.cls mX11_forgeKind.1 mX11_forgeKind.1 ∈ TBg := ⟨tb_g 993 (by decide +kernel) rfl, tb_g 67 (by decide +kernel) rfl⟩
set_option maxRecDepth 20000 in
theorem q_X11_forgeKind : Cond.code mX11_forgeKind.1 mX11_forgeKind.2.1 mX11_forgeKind.2.2.1 mX11_forgeKind.2.2.2 ∈ TBg ∧ Cond.initialized mX11_forgeKind.1.cls ∈ TBg ∧ (mX11_forgeKind.1.cls ≠ "java/lang/invoke/MethodHandle" ∧ mX11_forgeKind.1.cls ≠ "java/lang/invoke/VarHandle" ∧ (parseMethodDescriptor mX11_forgeKind.1.desc).map (fun d => d.parameters.length) = some 2) := ⟨tb_g 994 rfl rfl, tb_g 111 (by decide +kernel) rfl, by decide +kernel⟩
theorem c_X11_353 : CkM RX11 353 mX11_forgeKind 2 := ⟨q_X11_forgeKind.1, q_X11_forgeKind.2.1, q_X11_forgeKind.2.2, Or.inl (tb_g 991 (by decide +kernel) rfl)⟩
theorem k_X11_forgeShort : Cond.instanceMethod mX11_forgeShort.1 ∈ TBg ∧ Cond.selects mX11_forgeShort.1.cls mX11_forgeShort.1 mX11_forgeShort.1 ∈ TBg := ⟨tb_g 997 (by decide +kernel) rfl, tb_g 68 (by decide +kernel) rfl⟩
set_option maxRecDepth 20000 in
theorem q_X11_forgeShort : Cond.code mX11_forgeShort.1 mX11_forgeShort.2.1 mX11_forgeShort.2.2.1 mX11_forgeShort.2.2.2 ∈ TBg ∧ Cond.initialized mX11_forgeShort.1.cls ∈ TBg ∧ (mX11_forgeShort.1.cls ≠ "java/lang/invoke/MethodHandle" ∧ mX11_forgeShort.1.cls ≠ "java/lang/invoke/VarHandle" ∧ (parseMethodDescriptor mX11_forgeShort.1.desc).map (fun d => d.parameters.length) = some 2) := ⟨tb_g 998 rfl rfl, tb_g 111 (by decide +kernel) rfl, by decide +kernel⟩
theorem c_X11_356 : CkM RX11 356 mX11_forgeShort 2 := ⟨q_X11_forgeShort.1, q_X11_forgeShort.2.1, q_X11_forgeShort.2.2, Or.inl (tb_g 995 (by decide +kernel) rfl)⟩
theorem k_X11_forgeCopy : Cond.instanceMethod mX11_forgeCopy.1 ∈ TBg ∧ Cond.selects mX11_forgeCopy.1.cls mX11_forgeCopy.1 mX11_forgeCopy.1 ∈ TBg := ⟨tb_g 1001 (by decide +kernel) rfl, tb_g 69 (by decide +kernel) rfl⟩
set_option maxRecDepth 20000 in
theorem q_X11_forgeCopy : Cond.code mX11_forgeCopy.1 mX11_forgeCopy.2.1 mX11_forgeCopy.2.2.1 mX11_forgeCopy.2.2.2 ∈ TBg ∧ Cond.initialized mX11_forgeCopy.1.cls ∈ TBg ∧ (mX11_forgeCopy.1.cls ≠ "java/lang/invoke/MethodHandle" ∧ mX11_forgeCopy.1.cls ≠ "java/lang/invoke/VarHandle" ∧ (parseMethodDescriptor mX11_forgeCopy.1.desc).map (fun d => d.parameters.length) = some 2) := ⟨tb_g 1002 rfl rfl, tb_g 111 (by decide +kernel) rfl, by decide +kernel⟩
theorem c_X11_360 : CkM RX11 360 mX11_forgeCopy 2 := ⟨q_X11_forgeCopy.1, q_X11_forgeCopy.2.1, q_X11_forgeCopy.2.2, Or.inl (tb_g 999 (by decide +kernel) rfl)⟩
theorem k_X11_forgeRow : Cond.instanceMethod mX11_forgeRow.1 ∈ TBg ∧ Cond.selects mX11_forgeRow.1.cls mX11_forgeRow.1 mX11_forgeRow.1 ∈ TBg := ⟨tb_g 1005 (by decide +kernel) rfl, tb_g 70 (by decide +kernel) rfl⟩
set_option maxRecDepth 20000 in
theorem q_X11_forgeRow : Cond.code mX11_forgeRow.1 mX11_forgeRow.2.1 mX11_forgeRow.2.2.1 mX11_forgeRow.2.2.2 ∈ TBg ∧ Cond.initialized mX11_forgeRow.1.cls ∈ TBg ∧ (mX11_forgeRow.1.cls ≠ "java/lang/invoke/MethodHandle" ∧ mX11_forgeRow.1.cls ≠ "java/lang/invoke/VarHandle" ∧ (parseMethodDescriptor mX11_forgeRow.1.desc).map (fun d => d.parameters.length) = some 1) := ⟨tb_g 1006 rfl rfl, tb_g 111 (by decide +kernel) rfl, by decide +kernel⟩
theorem c_X11_363 : CkM RX11 363 mX11_forgeRow 1 := ⟨q_X11_forgeRow.1, q_X11_forgeRow.2.1, q_X11_forgeRow.2.2, Or.inl (tb_g 1003 (by decide +kernel) rfl)⟩
theorem k_X11_status : Cond.instanceMethod mX11_status.1 ∈ TBg ∧ Cond.selects mX11_status.1.cls mX11_status.1 mX11_status.1 ∈ TBg := ⟨tb_g 1008 (by decide +kernel) rfl, tb_g 1009 (by decide +kernel) rfl⟩
set_option maxRecDepth 20000 in
theorem q_X11_status : Cond.code mX11_status.1 mX11_status.2.1 mX11_status.2.2.1 mX11_status.2.2.2 ∈ TBg ∧ Cond.initialized mX11_status.1.cls ∈ TBg ∧ (mX11_status.1.cls ≠ "java/lang/invoke/MethodHandle" ∧ mX11_status.1.cls ≠ "java/lang/invoke/VarHandle" ∧ (parseMethodDescriptor mX11_status.1.desc).map (fun d => d.parameters.length) = some 0) := ⟨tb_g 1010 rfl rfl, tb_g 111 (by decide +kernel) rfl, by decide +kernel⟩
theorem c_L_180 : CkM RL 180 mX11_status 0 := ⟨q_X11_status.1, q_X11_status.2.1, q_X11_status.2.2, Or.inl (tb_g 1007 (by decide +kernel) rfl)⟩
theorem k_X12_init : Cond.instanceMethod mX12_init.1 ∈ TBg := tb_g 1014 (by decide +kernel) rfl
set_option maxRecDepth 20000 in
theorem q_X12_init : Cond.code mX12_init.1 mX12_init.2.1 mX12_init.2.2.1 mX12_init.2.2.2 ∈ TBg ∧ Cond.initialized mX12_init.1.cls ∈ TBg ∧ (mX12_init.1.cls ≠ "java/lang/invoke/MethodHandle" ∧ mX12_init.1.cls ≠ "java/lang/invoke/VarHandle" ∧ (parseMethodDescriptor mX12_init.1.desc).map (fun d => d.parameters.length) = some 0) := ⟨tb_g 1015 rfl rfl, tb_g 124 (by decide +kernel) rfl, by decide +kernel⟩
theorem c_L_12 : CkM RL 12 mX12_init 0 := ⟨q_X12_init.1, q_X12_init.2.1, q_X12_init.2.2, Or.inl (tb_g 1013 (by decide +kernel) rfl)⟩
set_option maxRecDepth 20000 in
theorem c_X12_1 : Cond.methodLink RX12 1 Lib.objectInit ∈ TBg ∧ Cond.instanceMethod Lib.objectInit ∈ TBg ∧ Cond.code Lib.objectInit ⟨#[0xb1]⟩ 1 none ∈ TBg := ⟨tb_g 1016 (by decide +kernel) rfl, tb_g 134 (by decide +kernel) rfl, tb_g 135 rfl rfl⟩
theorem k_X12_stretch : Cond.instanceMethod mX12_stretch.1 ∈ TBg ∧ Cond.selects mX12_stretch.1.cls mX12_stretch.1 mX12_stretch.1 ∈ TBg := ⟨tb_g 1211 (by decide +kernel) rfl, tb_g 1212 (by decide +kernel) rfl⟩
set_option maxRecDepth 20000 in
theorem q_X12_stretch : Cond.code mX12_stretch.1 mX12_stretch.2.1 mX12_stretch.2.2.1 mX12_stretch.2.2.2 ∈ TBg ∧ Cond.initialized mX12_stretch.1.cls ∈ TBg ∧ (mX12_stretch.1.cls ≠ "java/lang/invoke/MethodHandle" ∧ mX12_stretch.1.cls ≠ "java/lang/invoke/VarHandle" ∧ (parseMethodDescriptor mX12_stretch.1.desc).map (fun d => d.parameters.length) = some 3) := ⟨tb_g 1213 rfl rfl, tb_g 124 (by decide +kernel) rfl, by decide +kernel⟩
theorem c_L_17 : CkM RL 17 mX12_stretch 3 := ⟨q_X12_stretch.1, q_X12_stretch.2.1, q_X12_stretch.2.2, Or.inl (tb_g 1210 (by decide +kernel) rfl)⟩
theorem k_X12_in : Cond.static mX12_in.1 ∈ TBg := tb_g 1215 (by decide +kernel) rfl
set_option maxRecDepth 20000 in
theorem q_X12_in : Cond.code mX12_in.1 mX12_in.2.1 mX12_in.2.2.1 mX12_in.2.2.2 ∈ TBg ∧ Cond.initialized mX12_in.1.cls ∈ TBg ∧ (mX12_in.1.cls ≠ "java/lang/invoke/MethodHandle" ∧ mX12_in.1.cls ≠ "java/lang/invoke/VarHandle" ∧ (parseMethodDescriptor mX12_in.1.desc).map (fun d => d.parameters.length) = some 3) := ⟨tb_g 1216 rfl rfl, tb_g 124 (by decide +kernel) rfl, by decide +kernel⟩
theorem c_X12_174 : CkM RX12 174 mX12_in 3 := ⟨q_X12_in.1, q_X12_in.2.1, q_X12_in.2.2, Or.inl (tb_g 1214 (by decide +kernel) rfl)⟩
theorem k_X12_refused : Cond.instanceMethod mX12_refused.1 ∈ TBg ∧ Cond.selects mX12_refused.1.cls mX12_refused.1 mX12_refused.1 ∈ TBg := ⟨tb_g 1219 (by decide +kernel) rfl, tb_g 71 (by decide +kernel) rfl⟩
set_option maxRecDepth 20000 in
theorem q_X12_refused : Cond.code mX12_refused.1 mX12_refused.2.1 mX12_refused.2.2.1 mX12_refused.2.2.2 ∈ TBg ∧ Cond.initialized mX12_refused.1.cls ∈ TBg ∧ (mX12_refused.1.cls ≠ "java/lang/invoke/MethodHandle" ∧ mX12_refused.1.cls ≠ "java/lang/invoke/VarHandle" ∧ (parseMethodDescriptor mX12_refused.1.desc).map (fun d => d.parameters.length) = some 1) := ⟨tb_g 1220 rfl rfl, tb_g 124 (by decide +kernel) rfl, by decide +kernel⟩
theorem c_X12_187 : CkM RX12 187 mX12_refused 1 := ⟨q_X12_refused.1, q_X12_refused.2.1, q_X12_refused.2.2, Or.inl (tb_g 1217 (by decide +kernel) rfl)⟩
theorem k_X12_done : Cond.instanceMethod mX12_done.1 ∈ TBg ∧ Cond.selects mX12_done.1.cls mX12_done.1 mX12_done.1 ∈ TBg := ⟨tb_g 1223 (by decide +kernel) rfl, tb_g 72 (by decide +kernel) rfl⟩
set_option maxRecDepth 20000 in
theorem q_X12_done : Cond.code mX12_done.1 mX12_done.2.1 mX12_done.2.2.1 mX12_done.2.2.2 ∈ TBg ∧ Cond.initialized mX12_done.1.cls ∈ TBg ∧ (mX12_done.1.cls ≠ "java/lang/invoke/MethodHandle" ∧ mX12_done.1.cls ≠ "java/lang/invoke/VarHandle" ∧ (parseMethodDescriptor mX12_done.1.desc).map (fun d => d.parameters.length) = some 1) := ⟨tb_g 1224 rfl rfl, tb_g 124 (by decide +kernel) rfl, by decide +kernel⟩
theorem c_X12_191 : CkM RX12 191 mX12_done 1 := ⟨q_X12_done.1, q_X12_done.2.1, q_X12_done.2.2, Or.inl (tb_g 1221 (by decide +kernel) rfl)⟩
theorem k_X12_gauge : Cond.instanceMethod mX12_gauge.1 ∈ TBg ∧ Cond.selects mX12_gauge.1.cls mX12_gauge.1 mX12_gauge.1 ∈ TBg := ⟨tb_g 1226 (by decide +kernel) rfl, tb_g 1227 (by decide +kernel) rfl⟩
set_option maxRecDepth 20000 in
theorem q_X12_gauge : Cond.code mX12_gauge.1 mX12_gauge.2.1 mX12_gauge.2.2.1 mX12_gauge.2.2.2 ∈ TBg ∧ Cond.initialized mX12_gauge.1.cls ∈ TBg ∧ (mX12_gauge.1.cls ≠ "java/lang/invoke/MethodHandle" ∧ mX12_gauge.1.cls ≠ "java/lang/invoke/VarHandle" ∧ (parseMethodDescriptor mX12_gauge.1.desc).map (fun d => d.parameters.length) = some 2) := ⟨tb_g 1228 rfl rfl, tb_g 124 (by decide +kernel) rfl, by decide +kernel⟩
theorem c_L_22 : CkM RL 22 mX12_gauge 2 := ⟨q_X12_gauge.1, q_X12_gauge.2.1, q_X12_gauge.2.2, Or.inl (tb_g 1225 (by decide +kernel) rfl)⟩
theorem k_X12_isDay : Cond.static mX12_isDay.1 ∈ TBg := tb_g 1230 (by decide +kernel) rfl
set_option maxRecDepth 20000 in
theorem q_X12_isDay : Cond.code mX12_isDay.1 mX12_isDay.2.1 mX12_isDay.2.2.1 mX12_isDay.2.2.2 ∈ TBg ∧ Cond.initialized mX12_isDay.1.cls ∈ TBg ∧ (mX12_isDay.1.cls ≠ "java/lang/invoke/MethodHandle" ∧ mX12_isDay.1.cls ≠ "java/lang/invoke/VarHandle" ∧ (parseMethodDescriptor mX12_isDay.1.desc).map (fun d => d.parameters.length) = some 1) := ⟨tb_g 1231 rfl rfl, tb_g 124 (by decide +kernel) rfl, by decide +kernel⟩
theorem c_X12_194 : CkM RX12 194 mX12_isDay 1 := ⟨q_X12_isDay.1, q_X12_isDay.2.1, q_X12_isDay.2.2, Or.inl (tb_g 1229 (by decide +kernel) rfl)⟩
theorem k_X12_told : Cond.instanceMethod mX12_told.1 ∈ TBg ∧ Cond.selects mX12_told.1.cls mX12_told.1 mX12_told.1 ∈ TBg := ⟨tb_g 1234 (by decide +kernel) rfl, tb_g 73 (by decide +kernel) rfl⟩
set_option maxRecDepth 20000 in
theorem q_X12_told : Cond.code mX12_told.1 mX12_told.2.1 mX12_told.2.2.1 mX12_told.2.2.2 ∈ TBg ∧ Cond.initialized mX12_told.1.cls ∈ TBg ∧ (mX12_told.1.cls ≠ "java/lang/invoke/MethodHandle" ∧ mX12_told.1.cls ≠ "java/lang/invoke/VarHandle" ∧ (parseMethodDescriptor mX12_told.1.desc).map (fun d => d.parameters.length) = some 0) := ⟨tb_g 1235 rfl rfl, tb_g 124 (by decide +kernel) rfl, by decide +kernel⟩
theorem c_X12_198 : CkM RX12 198 mX12_told 0 := ⟨q_X12_told.1, q_X12_told.2.1, q_X12_told.2.2, Or.inl (tb_g 1232 (by decide +kernel) rfl)⟩
theorem k_X12_shift : Cond.instanceMethod mX12_shift.1 ∈ TBg ∧ Cond.selects mX12_shift.1.cls mX12_shift.1 mX12_shift.1 ∈ TBg := ⟨tb_g 1237 (by decide +kernel) rfl, tb_g 1238 (by decide +kernel) rfl⟩
set_option maxRecDepth 20000 in
theorem q_X12_shift : Cond.code mX12_shift.1 mX12_shift.2.1 mX12_shift.2.2.1 mX12_shift.2.2.2 ∈ TBg ∧ Cond.initialized mX12_shift.1.cls ∈ TBg ∧ (mX12_shift.1.cls ≠ "java/lang/invoke/MethodHandle" ∧ mX12_shift.1.cls ≠ "java/lang/invoke/VarHandle" ∧ (parseMethodDescriptor mX12_shift.1.desc).map (fun d => d.parameters.length) = some 3) := ⟨tb_g 1239 rfl rfl, tb_g 124 (by decide +kernel) rfl, by decide +kernel⟩
theorem c_L_26 : CkM RL 26 mX12_shift 3 := ⟨q_X12_shift.1, q_X12_shift.2.1, q_X12_shift.2.2, Or.inl (tb_g 1236 (by decide +kernel) rfl)⟩
theorem k_X12_isStretch : Cond.instanceMethod mX12_isStretch.1 ∈ TBg ∧ Cond.selects mX12_isStretch.1.cls mX12_isStretch.1 mX12_isStretch.1 ∈ TBg := ⟨tb_g 1242 (by decide +kernel) rfl, tb_g 74 (by decide +kernel) rfl⟩
set_option maxRecDepth 20000 in
theorem q_X12_isStretch : Cond.code mX12_isStretch.1 mX12_isStretch.2.1 mX12_isStretch.2.2.1 mX12_isStretch.2.2.2 ∈ TBg ∧ Cond.initialized mX12_isStretch.1.cls ∈ TBg ∧ (mX12_isStretch.1.cls ≠ "java/lang/invoke/MethodHandle" ∧ mX12_isStretch.1.cls ≠ "java/lang/invoke/VarHandle" ∧ (parseMethodDescriptor mX12_isStretch.1.desc).map (fun d => d.parameters.length) = some 1) := ⟨tb_g 1243 rfl rfl, tb_g 124 (by decide +kernel) rfl, by decide +kernel⟩
theorem c_X12_202 : CkM RX12 202 mX12_isStretch 1 := ⟨q_X12_isStretch.1, q_X12_isStretch.2.1, q_X12_isStretch.2.2, Or.inl (tb_g 1240 (by decide +kernel) rfl)⟩
theorem k_X12_isBar : Cond.instanceMethod mX12_isBar.1 ∈ TBg ∧ Cond.selects mX12_isBar.1.cls mX12_isBar.1 mX12_isBar.1 ∈ TBg := ⟨tb_g 1246 (by decide +kernel) rfl, tb_g 75 (by decide +kernel) rfl⟩
set_option maxRecDepth 20000 in
theorem q_X12_isBar : Cond.code mX12_isBar.1 mX12_isBar.2.1 mX12_isBar.2.2.1 mX12_isBar.2.2.2 ∈ TBg ∧ Cond.initialized mX12_isBar.1.cls ∈ TBg ∧ (mX12_isBar.1.cls ≠ "java/lang/invoke/MethodHandle" ∧ mX12_isBar.1.cls ≠ "java/lang/invoke/VarHandle" ∧ (parseMethodDescriptor mX12_isBar.1.desc).map (fun d => d.parameters.length) = some 1) := ⟨tb_g 1247 rfl rfl, tb_g 124 (by decide +kernel) rfl, by decide +kernel⟩
theorem c_X12_205 : CkM RX12 205 mX12_isBar 1 := ⟨q_X12_isBar.1, q_X12_isBar.2.1, q_X12_isBar.2.2, Or.inl (tb_g 1244 (by decide +kernel) rfl)⟩
theorem k_X12_cold : Cond.instanceMethod mX12_cold.1 ∈ TBg ∧ Cond.selects mX12_cold.1.cls mX12_cold.1 mX12_cold.1 ∈ TBg := ⟨tb_g 1249 (by decide +kernel) rfl, tb_g 1250 (by decide +kernel) rfl⟩
set_option maxRecDepth 20000 in
theorem q_X12_cold : Cond.code mX12_cold.1 mX12_cold.2.1 mX12_cold.2.2.1 mX12_cold.2.2.2 ∈ TBg ∧ Cond.initialized mX12_cold.1.cls ∈ TBg ∧ (mX12_cold.1.cls ≠ "java/lang/invoke/MethodHandle" ∧ mX12_cold.1.cls ≠ "java/lang/invoke/VarHandle" ∧ (parseMethodDescriptor mX12_cold.1.desc).map (fun d => d.parameters.length) = some 2) := ⟨tb_g 1251 rfl rfl, tb_g 124 (by decide +kernel) rfl, by decide +kernel⟩
theorem c_L_31 : CkM RL 31 mX12_cold 2 := ⟨q_X12_cold.1, q_X12_cold.2.1, q_X12_cold.2.2, Or.inl (tb_g 1248 (by decide +kernel) rfl)⟩
theorem k_X12_light : Cond.instanceMethod mX12_light.1 ∈ TBg ∧ Cond.selects mX12_light.1.cls mX12_light.1 mX12_light.1 ∈ TBg := ⟨tb_g 1253 (by decide +kernel) rfl, tb_g 1254 (by decide +kernel) rfl⟩
set_option maxRecDepth 20000 in
theorem q_X12_light : Cond.code mX12_light.1 mX12_light.2.1 mX12_light.2.2.1 mX12_light.2.2.2 ∈ TBg ∧ Cond.initialized mX12_light.1.cls ∈ TBg ∧ (mX12_light.1.cls ≠ "java/lang/invoke/MethodHandle" ∧ mX12_light.1.cls ≠ "java/lang/invoke/VarHandle" ∧ (parseMethodDescriptor mX12_light.1.desc).map (fun d => d.parameters.length) = some 2) := ⟨tb_g 1255 rfl rfl, tb_g 124 (by decide +kernel) rfl, by decide +kernel⟩
theorem c_L_35 : CkM RL 35 mX12_light 2 := ⟨q_X12_light.1, q_X12_light.2.1, q_X12_light.2.2, Or.inl (tb_g 1252 (by decide +kernel) rfl)⟩
theorem k_X12_height : Cond.instanceMethod mX12_height.1 ∈ TBg ∧ Cond.selects mX12_height.1.cls mX12_height.1 mX12_height.1 ∈ TBg := ⟨tb_g 1257 (by decide +kernel) rfl, tb_g 1258 (by decide +kernel) rfl⟩
set_option maxRecDepth 20000 in
theorem q_X12_height : Cond.code mX12_height.1 mX12_height.2.1 mX12_height.2.2.1 mX12_height.2.2.2 ∈ TBg ∧ Cond.initialized mX12_height.1.cls ∈ TBg ∧ (mX12_height.1.cls ≠ "java/lang/invoke/MethodHandle" ∧ mX12_height.1.cls ≠ "java/lang/invoke/VarHandle" ∧ (parseMethodDescriptor mX12_height.1.desc).map (fun d => d.parameters.length) = some 1) := ⟨tb_g 1259 rfl rfl, tb_g 124 (by decide +kernel) rfl, by decide +kernel⟩
theorem c_L_98 : CkM RL 98 mX12_height 1 := ⟨q_X12_height.1, q_X12_height.2.1, q_X12_height.2.2, Or.inl (tb_g 1256 (by decide +kernel) rfl)⟩
theorem k_X12_heightOf : Cond.instanceMethod mX12_heightOf.1 ∈ TBg ∧ Cond.selects mX12_heightOf.1.cls mX12_heightOf.1 mX12_heightOf.1 ∈ TBg := ⟨tb_g 1262 (by decide +kernel) rfl, tb_g 76 (by decide +kernel) rfl⟩
set_option maxRecDepth 20000 in
theorem q_X12_heightOf : Cond.code mX12_heightOf.1 mX12_heightOf.2.1 mX12_heightOf.2.2.1 mX12_heightOf.2.2.2 ∈ TBg ∧ Cond.initialized mX12_heightOf.1.cls ∈ TBg ∧ (mX12_heightOf.1.cls ≠ "java/lang/invoke/MethodHandle" ∧ mX12_heightOf.1.cls ≠ "java/lang/invoke/VarHandle" ∧ (parseMethodDescriptor mX12_heightOf.1.desc).map (fun d => d.parameters.length) = some 1) := ⟨tb_g 1263 rfl rfl, tb_g 124 (by decide +kernel) rfl, by decide +kernel⟩
theorem c_X12_208 : CkM RX12 208 mX12_heightOf 1 := ⟨q_X12_heightOf.1, q_X12_heightOf.2.1, q_X12_heightOf.2.2, Or.inl (tb_g 1260 (by decide +kernel) rfl)⟩
theorem k_X12_water : Cond.instanceMethod mX12_water.1 ∈ TBg ∧ Cond.selects mX12_water.1.cls mX12_water.1 mX12_water.1 ∈ TBg := ⟨tb_g 1265 (by decide +kernel) rfl, tb_g 1266 (by decide +kernel) rfl⟩
set_option maxRecDepth 20000 in
theorem q_X12_water : Cond.code mX12_water.1 mX12_water.2.1 mX12_water.2.2.1 mX12_water.2.2.2 ∈ TBg ∧ Cond.initialized mX12_water.1.cls ∈ TBg ∧ (mX12_water.1.cls ≠ "java/lang/invoke/MethodHandle" ∧ mX12_water.1.cls ≠ "java/lang/invoke/VarHandle" ∧ (parseMethodDescriptor mX12_water.1.desc).map (fun d => d.parameters.length) = some 2) := ⟨tb_g 1267 rfl rfl, tb_g 124 (by decide +kernel) rfl, by decide +kernel⟩
theorem c_L_106 : CkM RL 106 mX12_water 2 := ⟨q_X12_water.1, q_X12_water.2.1, q_X12_water.2.2, Or.inl (tb_g 1264 (by decide +kernel) rfl)⟩
theorem k_X12_waterOf : Cond.instanceMethod mX12_waterOf.1 ∈ TBg ∧ Cond.selects mX12_waterOf.1.cls mX12_waterOf.1 mX12_waterOf.1 ∈ TBg := ⟨tb_g 1270 (by decide +kernel) rfl, tb_g 77 (by decide +kernel) rfl⟩
set_option maxRecDepth 20000 in
theorem q_X12_waterOf : Cond.code mX12_waterOf.1 mX12_waterOf.2.1 mX12_waterOf.2.2.1 mX12_waterOf.2.2.2 ∈ TBg ∧ Cond.initialized mX12_waterOf.1.cls ∈ TBg ∧ (mX12_waterOf.1.cls ≠ "java/lang/invoke/MethodHandle" ∧ mX12_waterOf.1.cls ≠ "java/lang/invoke/VarHandle" ∧ (parseMethodDescriptor mX12_waterOf.1.desc).map (fun d => d.parameters.length) = some 2) := ⟨tb_g 1271 rfl rfl, tb_g 124 (by decide +kernel) rfl, by decide +kernel⟩
theorem c_X12_215 : CkM RX12 215 mX12_waterOf 2 := ⟨q_X12_waterOf.1, q_X12_waterOf.2.1, q_X12_waterOf.2.2, Or.inl (tb_g 1268 (by decide +kernel) rfl)⟩
theorem k_X12_shiftOf : Cond.instanceMethod mX12_shiftOf.1 ∈ TBg ∧ Cond.selects mX12_shiftOf.1.cls mX12_shiftOf.1 mX12_shiftOf.1 ∈ TBg := ⟨tb_g 1274 (by decide +kernel) rfl, tb_g 78 (by decide +kernel) rfl⟩
set_option maxRecDepth 20000 in
theorem q_X12_shiftOf : Cond.code mX12_shiftOf.1 mX12_shiftOf.2.1 mX12_shiftOf.2.2.1 mX12_shiftOf.2.2.2 ∈ TBg ∧ Cond.initialized mX12_shiftOf.1.cls ∈ TBg ∧ (mX12_shiftOf.1.cls ≠ "java/lang/invoke/MethodHandle" ∧ mX12_shiftOf.1.cls ≠ "java/lang/invoke/VarHandle" ∧ (parseMethodDescriptor mX12_shiftOf.1.desc).map (fun d => d.parameters.length) = some 2) := ⟨tb_g 1275 rfl rfl, tb_g 124 (by decide +kernel) rfl, by decide +kernel⟩
theorem c_X12_211 : CkM RX12 211 mX12_shiftOf 2 := ⟨q_X12_shiftOf.1, q_X12_shiftOf.2.1, q_X12_shiftOf.2.2, Or.inl (tb_g 1272 (by decide +kernel) rfl)⟩
theorem k_X12_stretchTold : Cond.instanceMethod mX12_stretchTold.1 ∈ TBg ∧ Cond.selects mX12_stretchTold.1.cls mX12_stretchTold.1 mX12_stretchTold.1 ∈ TBg := ⟨tb_g 1277 (by decide +kernel) rfl, tb_g 1278 (by decide +kernel) rfl⟩
set_option maxRecDepth 20000 in
theorem q_X12_stretchTold : Cond.code mX12_stretchTold.1 mX12_stretchTold.2.1 mX12_stretchTold.2.2.1 mX12_stretchTold.2.2.2 ∈ TBg ∧ Cond.initialized mX12_stretchTold.1.cls ∈ TBg ∧ (mX12_stretchTold.1.cls ≠ "java/lang/invoke/MethodHandle" ∧ mX12_stretchTold.1.cls ≠ "java/lang/invoke/VarHandle" ∧ (parseMethodDescriptor mX12_stretchTold.1.desc).map (fun d => d.parameters.length) = some 2) := ⟨tb_g 1279 rfl rfl, tb_g 124 (by decide +kernel) rfl, by decide +kernel⟩
theorem c_L_102 : CkM RL 102 mX12_stretchTold 2 := ⟨q_X12_stretchTold.1, q_X12_stretchTold.2.1, q_X12_stretchTold.2.2, Or.inl (tb_g 1276 (by decide +kernel) rfl)⟩
theorem k_X12_today : Cond.instanceMethod mX12_today.1 ∈ TBg ∧ Cond.selects mX12_today.1.cls mX12_today.1 mX12_today.1 ∈ TBg := ⟨tb_g 1282 (by decide +kernel) rfl, tb_g 79 (by decide +kernel) rfl⟩
set_option maxRecDepth 20000 in
theorem q_X12_today : Cond.code mX12_today.1 mX12_today.2.1 mX12_today.2.2.1 mX12_today.2.2.2 ∈ TBg ∧ Cond.initialized mX12_today.1.cls ∈ TBg ∧ (mX12_today.1.cls ≠ "java/lang/invoke/MethodHandle" ∧ mX12_today.1.cls ≠ "java/lang/invoke/VarHandle" ∧ (parseMethodDescriptor mX12_today.1.desc).map (fun d => d.parameters.length) = some 0) := ⟨tb_g 1283 rfl rfl, tb_g 124 (by decide +kernel) rfl, by decide +kernel⟩
theorem c_X12_218 : CkM RX12 218 mX12_today 0 := ⟨q_X12_today.1, q_X12_today.2.1, q_X12_today.2.2, Or.inl (tb_g 1280 (by decide +kernel) rfl)⟩
theorem k_X12_isNight : Cond.instanceMethod mX12_isNight.1 ∈ TBg ∧ Cond.selects mX12_isNight.1.cls mX12_isNight.1 mX12_isNight.1 ∈ TBg := ⟨tb_g 1286 (by decide +kernel) rfl, tb_g 80 (by decide +kernel) rfl⟩
set_option maxRecDepth 20000 in
theorem q_X12_isNight : Cond.code mX12_isNight.1 mX12_isNight.2.1 mX12_isNight.2.2.1 mX12_isNight.2.2.2 ∈ TBg ∧ Cond.initialized mX12_isNight.1.cls ∈ TBg ∧ (mX12_isNight.1.cls ≠ "java/lang/invoke/MethodHandle" ∧ mX12_isNight.1.cls ≠ "java/lang/invoke/VarHandle" ∧ (parseMethodDescriptor mX12_isNight.1.desc).map (fun d => d.parameters.length) = some 0) := ⟨tb_g 1287 rfl rfl, tb_g 124 (by decide +kernel) rfl, by decide +kernel⟩
theorem c_X12_221 : CkM RX12 221 mX12_isNight 0 := ⟨q_X12_isNight.1, q_X12_isNight.2.1, q_X12_isNight.2.2, Or.inl (tb_g 1284 (by decide +kernel) rfl)⟩
theorem k_X12_longOf : Cond.instanceMethod mX12_longOf.1 ∈ TBg ∧ Cond.selects mX12_longOf.1.cls mX12_longOf.1 mX12_longOf.1 ∈ TBg := ⟨tb_g 1290 (by decide +kernel) rfl, tb_g 81 (by decide +kernel) rfl⟩
set_option maxRecDepth 20000 in
theorem q_X12_longOf : Cond.code mX12_longOf.1 mX12_longOf.2.1 mX12_longOf.2.2.1 mX12_longOf.2.2.2 ∈ TBg ∧ Cond.initialized mX12_longOf.1.cls ∈ TBg ∧ (mX12_longOf.1.cls ≠ "java/lang/invoke/MethodHandle" ∧ mX12_longOf.1.cls ≠ "java/lang/invoke/VarHandle" ∧ (parseMethodDescriptor mX12_longOf.1.desc).map (fun d => d.parameters.length) = some 2) := ⟨tb_g 1291 rfl rfl, tb_g 124 (by decide +kernel) rfl, by decide +kernel⟩
theorem c_X12_225 : CkM RX12 225 mX12_longOf 2 := ⟨q_X12_longOf.1, q_X12_longOf.2.1, q_X12_longOf.2.2, Or.inl (tb_g 1288 (by decide +kernel) rfl)⟩
theorem k_X12_boat : Cond.instanceMethod mX12_boat.1 ∈ TBg ∧ Cond.selects mX12_boat.1.cls mX12_boat.1 mX12_boat.1 ∈ TBg := ⟨tb_g 1293 (by decide +kernel) rfl, tb_g 1294 (by decide +kernel) rfl⟩
set_option maxRecDepth 20000 in
theorem q_X12_boat : Cond.code mX12_boat.1 mX12_boat.2.1 mX12_boat.2.2.1 mX12_boat.2.2.2 ∈ TBg ∧ Cond.initialized mX12_boat.1.cls ∈ TBg ∧ (mX12_boat.1.cls ≠ "java/lang/invoke/MethodHandle" ∧ mX12_boat.1.cls ≠ "java/lang/invoke/VarHandle" ∧ (parseMethodDescriptor mX12_boat.1.desc).map (fun d => d.parameters.length) = some 4) := ⟨tb_g 1295 rfl rfl, tb_g 124 (by decide +kernel) rfl, by decide +kernel⟩
theorem c_L_40 : CkM RL 40 mX12_boat 4 := ⟨q_X12_boat.1, q_X12_boat.2.1, q_X12_boat.2.2, Or.inl (tb_g 1292 (by decide +kernel) rfl)⟩
theorem k_X12_isLanding : Cond.instanceMethod mX12_isLanding.1 ∈ TBg ∧ Cond.selects mX12_isLanding.1.cls mX12_isLanding.1 mX12_isLanding.1 ∈ TBg := ⟨tb_g 1298 (by decide +kernel) rfl, tb_g 82 (by decide +kernel) rfl⟩
set_option maxRecDepth 20000 in
theorem q_X12_isLanding : Cond.code mX12_isLanding.1 mX12_isLanding.2.1 mX12_isLanding.2.2.1 mX12_isLanding.2.2.2 ∈ TBg ∧ Cond.initialized mX12_isLanding.1.cls ∈ TBg ∧ (mX12_isLanding.1.cls ≠ "java/lang/invoke/MethodHandle" ∧ mX12_isLanding.1.cls ≠ "java/lang/invoke/VarHandle" ∧ (parseMethodDescriptor mX12_isLanding.1.desc).map (fun d => d.parameters.length) = some 1) := ⟨tb_g 1299 rfl rfl, tb_g 124 (by decide +kernel) rfl, by decide +kernel⟩
theorem c_X12_229 : CkM RX12 229 mX12_isLanding 1 := ⟨q_X12_isLanding.1, q_X12_isLanding.2.1, q_X12_isLanding.2.2, Or.inl (tb_g 1296 (by decide +kernel) rfl)⟩
theorem k_X12_bale : Cond.instanceMethod mX12_bale.1 ∈ TBg ∧ Cond.selects mX12_bale.1.cls mX12_bale.1 mX12_bale.1 ∈ TBg := ⟨tb_g 1301 (by decide +kernel) rfl, tb_g 1302 (by decide +kernel) rfl⟩
set_option maxRecDepth 20000 in
theorem q_X12_bale : Cond.code mX12_bale.1 mX12_bale.2.1 mX12_bale.2.2.1 mX12_bale.2.2.2 ∈ TBg ∧ Cond.initialized mX12_bale.1.cls ∈ TBg ∧ (mX12_bale.1.cls ≠ "java/lang/invoke/MethodHandle" ∧ mX12_bale.1.cls ≠ "java/lang/invoke/VarHandle" ∧ (parseMethodDescriptor mX12_bale.1.desc).map (fun d => d.parameters.length) = some 4) := ⟨tb_g 1303 rfl rfl, tb_g 124 (by decide +kernel) rfl, by decide +kernel⟩
theorem c_L_44 : CkM RL 44 mX12_bale 4 := ⟨q_X12_bale.1, q_X12_bale.2.1, q_X12_bale.2.2, Or.inl (tb_g 1300 (by decide +kernel) rfl)⟩
theorem k_X12_lade : Cond.instanceMethod mX12_lade.1 ∈ TBg ∧ Cond.selects mX12_lade.1.cls mX12_lade.1 mX12_lade.1 ∈ TBg := ⟨tb_g 1305 (by decide +kernel) rfl, tb_g 1306 (by decide +kernel) rfl⟩
set_option maxRecDepth 20000 in
theorem q_X12_lade : Cond.code mX12_lade.1 mX12_lade.2.1 mX12_lade.2.2.1 mX12_lade.2.2.2 ∈ TBg ∧ Cond.initialized mX12_lade.1.cls ∈ TBg ∧ (mX12_lade.1.cls ≠ "java/lang/invoke/MethodHandle" ∧ mX12_lade.1.cls ≠ "java/lang/invoke/VarHandle" ∧ (parseMethodDescriptor mX12_lade.1.desc).map (fun d => d.parameters.length) = some 2) := ⟨tb_g 1307 rfl rfl, tb_g 124 (by decide +kernel) rfl, by decide +kernel⟩
theorem c_L_48 : CkM RL 48 mX12_lade 2 := ⟨q_X12_lade.1, q_X12_lade.2.1, q_X12_lade.2.2, Or.inl (tb_g 1304 (by decide +kernel) rfl)⟩
theorem k_X12_isBale : Cond.instanceMethod mX12_isBale.1 ∈ TBg ∧ Cond.selects mX12_isBale.1.cls mX12_isBale.1 mX12_isBale.1 ∈ TBg := ⟨tb_g 1310 (by decide +kernel) rfl, tb_g 83 (by decide +kernel) rfl⟩
set_option maxRecDepth 20000 in
theorem q_X12_isBale : Cond.code mX12_isBale.1 mX12_isBale.2.1 mX12_isBale.2.2.1 mX12_isBale.2.2.2 ∈ TBg ∧ Cond.initialized mX12_isBale.1.cls ∈ TBg ∧ (mX12_isBale.1.cls ≠ "java/lang/invoke/MethodHandle" ∧ mX12_isBale.1.cls ≠ "java/lang/invoke/VarHandle" ∧ (parseMethodDescriptor mX12_isBale.1.desc).map (fun d => d.parameters.length) = some 1) := ⟨tb_g 1311 rfl rfl, tb_g 124 (by decide +kernel) rfl, by decide +kernel⟩
theorem c_X12_235 : CkM RX12 235 mX12_isBale 1 := ⟨q_X12_isBale.1, q_X12_isBale.2.1, q_X12_isBale.2.2, Or.inl (tb_g 1308 (by decide +kernel) rfl)⟩
theorem k_X12_isBoat : Cond.instanceMethod mX12_isBoat.1 ∈ TBg ∧ Cond.selects mX12_isBoat.1.cls mX12_isBoat.1 mX12_isBoat.1 ∈ TBg := ⟨tb_g 1314 (by decide +kernel) rfl, tb_g 84 (by decide +kernel) rfl⟩
set_option maxRecDepth 20000 in
theorem q_X12_isBoat : Cond.code mX12_isBoat.1 mX12_isBoat.2.1 mX12_isBoat.2.2.1 mX12_isBoat.2.2.2 ∈ TBg ∧ Cond.initialized mX12_isBoat.1.cls ∈ TBg ∧ (mX12_isBoat.1.cls ≠ "java/lang/invoke/MethodHandle" ∧ mX12_isBoat.1.cls ≠ "java/lang/invoke/VarHandle" ∧ (parseMethodDescriptor mX12_isBoat.1.desc).map (fun d => d.parameters.length) = some 1) := ⟨tb_g 1315 rfl rfl, tb_g 124 (by decide +kernel) rfl, by decide +kernel⟩
theorem c_X12_238 : CkM RX12 238 mX12_isBoat 1 := ⟨q_X12_isBoat.1, q_X12_isBoat.2.1, q_X12_isBoat.2.2, Or.inl (tb_g 1312 (by decide +kernel) rfl)⟩
theorem k_X12_aboard : Cond.instanceMethod mX12_aboard.1 ∈ TBg ∧ Cond.selects mX12_aboard.1.cls mX12_aboard.1 mX12_aboard.1 ∈ TBg := ⟨tb_g 1318 (by decide +kernel) rfl, tb_g 85 (by decide +kernel) rfl⟩
set_option maxRecDepth 20000 in
theorem q_X12_aboard : Cond.code mX12_aboard.1 mX12_aboard.2.1 mX12_aboard.2.2.1 mX12_aboard.2.2.2 ∈ TBg ∧ Cond.initialized mX12_aboard.1.cls ∈ TBg ∧ (mX12_aboard.1.cls ≠ "java/lang/invoke/MethodHandle" ∧ mX12_aboard.1.cls ≠ "java/lang/invoke/VarHandle" ∧ (parseMethodDescriptor mX12_aboard.1.desc).map (fun d => d.parameters.length) = some 1) := ⟨tb_g 1319 rfl rfl, tb_g 124 (by decide +kernel) rfl, by decide +kernel⟩
theorem c_X12_232 : CkM RX12 232 mX12_aboard 1 := ⟨q_X12_aboard.1, q_X12_aboard.2.1, q_X12_aboard.2.2, Or.inl (tb_g 1316 (by decide +kernel) rfl)⟩
theorem k_X12_draught : Cond.instanceMethod mX12_draught.1 ∈ TBg ∧ Cond.selects mX12_draught.1.cls mX12_draught.1 mX12_draught.1 ∈ TBg := ⟨tb_g 1322 (by decide +kernel) rfl, tb_g 86 (by decide +kernel) rfl⟩
set_option maxRecDepth 20000 in
theorem q_X12_draught : Cond.code mX12_draught.1 mX12_draught.2.1 mX12_draught.2.2.1 mX12_draught.2.2.2 ∈ TBg ∧ Cond.initialized mX12_draught.1.cls ∈ TBg ∧ (mX12_draught.1.cls ≠ "java/lang/invoke/MethodHandle" ∧ mX12_draught.1.cls ≠ "java/lang/invoke/VarHandle" ∧ (parseMethodDescriptor mX12_draught.1.desc).map (fun d => d.parameters.length) = some 1) := ⟨tb_g 1323 rfl rfl, tb_g 124 (by decide +kernel) rfl, by decide +kernel⟩
theorem c_X12_241 : CkM RX12 241 mX12_draught 1 := ⟨q_X12_draught.1, q_X12_draught.2.1, q_X12_draught.2.2, Or.inl (tb_g 1320 (by decide +kernel) rfl)⟩
theorem k_X12_land : Cond.instanceMethod mX12_land.1 ∈ TBg ∧ Cond.selects mX12_land.1.cls mX12_land.1 mX12_land.1 ∈ TBg := ⟨tb_g 1325 (by decide +kernel) rfl, tb_g 1326 (by decide +kernel) rfl⟩
set_option maxRecDepth 20000 in
theorem q_X12_land : Cond.code mX12_land.1 mX12_land.2.1 mX12_land.2.2.1 mX12_land.2.2.2 ∈ TBg ∧ Cond.initialized mX12_land.1.cls ∈ TBg ∧ (mX12_land.1.cls ≠ "java/lang/invoke/MethodHandle" ∧ mX12_land.1.cls ≠ "java/lang/invoke/VarHandle" ∧ (parseMethodDescriptor mX12_land.1.desc).map (fun d => d.parameters.length) = some 1) := ⟨tb_g 1327 rfl rfl, tb_g 124 (by decide +kernel) rfl, by decide +kernel⟩
theorem c_L_53 : CkM RL 53 mX12_land 1 := ⟨q_X12_land.1, q_X12_land.2.1, q_X12_land.2.2, Or.inl (tb_g 1324 (by decide +kernel) rfl)⟩
theorem k_X12_lose : Cond.instanceMethod mX12_lose.1 ∈ TBg ∧ Cond.selects mX12_lose.1.cls mX12_lose.1 mX12_lose.1 ∈ TBg := ⟨tb_g 1329 (by decide +kernel) rfl, tb_g 1330 (by decide +kernel) rfl⟩
set_option maxRecDepth 20000 in
theorem q_X12_lose : Cond.code mX12_lose.1 mX12_lose.2.1 mX12_lose.2.2.1 mX12_lose.2.2.2 ∈ TBg ∧ Cond.initialized mX12_lose.1.cls ∈ TBg ∧ (mX12_lose.1.cls ≠ "java/lang/invoke/MethodHandle" ∧ mX12_lose.1.cls ≠ "java/lang/invoke/VarHandle" ∧ (parseMethodDescriptor mX12_lose.1.desc).map (fun d => d.parameters.length) = some 1) := ⟨tb_g 1331 rfl rfl, tb_g 124 (by decide +kernel) rfl, by decide +kernel⟩
theorem c_L_57 : CkM RL 57 mX12_lose 1 := ⟨q_X12_lose.1, q_X12_lose.2.1, q_X12_lose.2.2, Or.inl (tb_g 1328 (by decide +kernel) rfl)⟩
theorem k_X12_why : Cond.instanceMethod mX12_why.1 ∈ TBg ∧ Cond.selects mX12_why.1.cls mX12_why.1 mX12_why.1 ∈ TBg := ⟨tb_g 1333 (by decide +kernel) rfl, tb_g 1334 (by decide +kernel) rfl⟩
set_option maxRecDepth 20000 in
theorem q_X12_why : Cond.code mX12_why.1 mX12_why.2.1 mX12_why.2.2.1 mX12_why.2.2.2 ∈ TBg ∧ Cond.initialized mX12_why.1.cls ∈ TBg ∧ (mX12_why.1.cls ≠ "java/lang/invoke/MethodHandle" ∧ mX12_why.1.cls ≠ "java/lang/invoke/VarHandle" ∧ (parseMethodDescriptor mX12_why.1.desc).map (fun d => d.parameters.length) = some 2) := ⟨tb_g 1335 rfl rfl, tb_g 124 (by decide +kernel) rfl, by decide +kernel⟩
theorem c_L_118 : CkM RL 118 mX12_why 2 := ⟨q_X12_why.1, q_X12_why.2.1, q_X12_why.2.2, Or.inl (tb_g 1332 (by decide +kernel) rfl)⟩
theorem k_X12_whyNot : Cond.instanceMethod mX12_whyNot.1 ∈ TBg ∧ Cond.selects mX12_whyNot.1.cls mX12_whyNot.1 mX12_whyNot.1 ∈ TBg := ⟨tb_g 1338 (by decide +kernel) rfl, tb_g 87 (by decide +kernel) rfl⟩
set_option maxRecDepth 20000 in
theorem q_X12_whyNot : Cond.code mX12_whyNot.1 mX12_whyNot.2.1 mX12_whyNot.2.2.1 mX12_whyNot.2.2.2 ∈ TBg ∧ Cond.initialized mX12_whyNot.1.cls ∈ TBg ∧ (mX12_whyNot.1.cls ≠ "java/lang/invoke/MethodHandle" ∧ mX12_whyNot.1.cls ≠ "java/lang/invoke/VarHandle" ∧ (parseMethodDescriptor mX12_whyNot.1.desc).map (fun d => d.parameters.length) = some 2) := ⟨tb_g 1339 rfl rfl, tb_g 124 (by decide +kernel) rfl, by decide +kernel⟩
theorem c_X12_254 : CkM RX12 254 mX12_whyNot 2 := ⟨q_X12_whyNot.1, q_X12_whyNot.2.1, q_X12_whyNot.2.2, Or.inl (tb_g 1336 (by decide +kernel) rfl)⟩
theorem k_X12_ahead : Cond.instanceMethod mX12_ahead.1 ∈ TBg ∧ Cond.selects mX12_ahead.1.cls mX12_ahead.1 mX12_ahead.1 ∈ TBg := ⟨tb_g 1342 (by decide +kernel) rfl, tb_g 88 (by decide +kernel) rfl⟩
set_option maxRecDepth 20000 in
theorem q_X12_ahead : Cond.code mX12_ahead.1 mX12_ahead.2.1 mX12_ahead.2.2.1 mX12_ahead.2.2.2 ∈ TBg ∧ Cond.initialized mX12_ahead.1.cls ∈ TBg ∧ (mX12_ahead.1.cls ≠ "java/lang/invoke/MethodHandle" ∧ mX12_ahead.1.cls ≠ "java/lang/invoke/VarHandle" ∧ (parseMethodDescriptor mX12_ahead.1.desc).map (fun d => d.parameters.length) = some 2) := ⟨tb_g 1343 rfl rfl, tb_g 124 (by decide +kernel) rfl, by decide +kernel⟩
theorem c_X12_251 : CkM RX12 251 mX12_ahead 2 := ⟨q_X12_ahead.1, q_X12_ahead.2.1, q_X12_ahead.2.2, Or.inl (tb_g 1340 (by decide +kernel) rfl)⟩
theorem k_X12_leave : Cond.instanceMethod mX12_leave.1 ∈ TBg ∧ Cond.selects mX12_leave.1.cls mX12_leave.1 mX12_leave.1 ∈ TBg := ⟨tb_g 1345 (by decide +kernel) rfl, tb_g 1346 (by decide +kernel) rfl⟩
set_option maxRecDepth 20000 in
theorem q_X12_leave : Cond.code mX12_leave.1 mX12_leave.2.1 mX12_leave.2.2.1 mX12_leave.2.2.2 ∈ TBg ∧ Cond.initialized mX12_leave.1.cls ∈ TBg ∧ (mX12_leave.1.cls ≠ "java/lang/invoke/MethodHandle" ∧ mX12_leave.1.cls ≠ "java/lang/invoke/VarHandle" ∧ (parseMethodDescriptor mX12_leave.1.desc).map (fun d => d.parameters.length) = some 2) := ⟨tb_g 1347 rfl rfl, tb_g 124 (by decide +kernel) rfl, by decide +kernel⟩
theorem c_L_61 : CkM RL 61 mX12_leave 2 := ⟨q_X12_leave.1, q_X12_leave.2.1, q_X12_leave.2.2, Or.inl (tb_g 1344 (by decide +kernel) rfl)⟩
theorem k_X12_off : Cond.instanceMethod mX12_off.1 ∈ TBg ∧ Cond.selects mX12_off.1.cls mX12_off.1 mX12_off.1 ∈ TBg := ⟨tb_g 1349 (by decide +kernel) rfl, tb_g 1350 (by decide +kernel) rfl⟩
set_option maxRecDepth 20000 in
theorem q_X12_off : Cond.code mX12_off.1 mX12_off.2.1 mX12_off.2.2.1 mX12_off.2.2.2 ∈ TBg ∧ Cond.initialized mX12_off.1.cls ∈ TBg ∧ (mX12_off.1.cls ≠ "java/lang/invoke/MethodHandle" ∧ mX12_off.1.cls ≠ "java/lang/invoke/VarHandle" ∧ (parseMethodDescriptor mX12_off.1.desc).map (fun d => d.parameters.length) = some 1) := ⟨tb_g 1351 rfl rfl, tb_g 124 (by decide +kernel) rfl, by decide +kernel⟩
theorem c_L_65 : CkM RL 65 mX12_off 1 := ⟨q_X12_off.1, q_X12_off.2.1, q_X12_off.2.2, Or.inl (tb_g 1348 (by decide +kernel) rfl)⟩
theorem k_X12_comes : Cond.instanceMethod mX12_comes.1 ∈ TBg ∧ Cond.selects mX12_comes.1.cls mX12_comes.1 mX12_comes.1 ∈ TBg := ⟨tb_g 1354 (by decide +kernel) rfl, tb_g 89 (by decide +kernel) rfl⟩
set_option maxRecDepth 20000 in
theorem q_X12_comes : Cond.code mX12_comes.1 mX12_comes.2.1 mX12_comes.2.2.1 mX12_comes.2.2.2 ∈ TBg ∧ Cond.initialized mX12_comes.1.cls ∈ TBg ∧ (mX12_comes.1.cls ≠ "java/lang/invoke/MethodHandle" ∧ mX12_comes.1.cls ≠ "java/lang/invoke/VarHandle" ∧ (parseMethodDescriptor mX12_comes.1.desc).map (fun d => d.parameters.length) = some 2) := ⟨tb_g 1355 rfl rfl, tb_g 124 (by decide +kernel) rfl, by decide +kernel⟩
theorem c_X12_257 : CkM RX12 257 mX12_comes 2 := ⟨q_X12_comes.1, q_X12_comes.2.1, q_X12_comes.2.2, Or.inl (tb_g 1352 (by decide +kernel) rfl)⟩
theorem k_X12_hears : Cond.instanceMethod mX12_hears.1 ∈ TBg ∧ Cond.selects mX12_hears.1.cls mX12_hears.1 mX12_hears.1 ∈ TBg := ⟨tb_g 1358 (by decide +kernel) rfl, tb_g 90 (by decide +kernel) rfl⟩
set_option maxRecDepth 20000 in
theorem q_X12_hears : Cond.code mX12_hears.1 mX12_hears.2.1 mX12_hears.2.2.1 mX12_hears.2.2.2 ∈ TBg ∧ Cond.initialized mX12_hears.1.cls ∈ TBg ∧ (mX12_hears.1.cls ≠ "java/lang/invoke/MethodHandle" ∧ mX12_hears.1.cls ≠ "java/lang/invoke/VarHandle" ∧ (parseMethodDescriptor mX12_hears.1.desc).map (fun d => d.parameters.length) = some 2) := ⟨tb_g 1359 rfl rfl, tb_g 124 (by decide +kernel) rfl, by decide +kernel⟩
theorem c_X12_247 : CkM RX12 247 mX12_hears 2 := ⟨q_X12_hears.1, q_X12_hears.2.1, q_X12_hears.2.2, Or.inl (tb_g 1356 (by decide +kernel) rfl)⟩
theorem k_X12_go : Cond.instanceMethod mX12_go.1 ∈ TBg ∧ Cond.selects mX12_go.1.cls mX12_go.1 mX12_go.1 ∈ TBg := ⟨tb_g 1361 (by decide +kernel) rfl, tb_g 1362 (by decide +kernel) rfl⟩
set_option maxRecDepth 20000 in
theorem q_X12_go : Cond.code mX12_go.1 mX12_go.2.1 mX12_go.2.2.1 mX12_go.2.2.2 ∈ TBg ∧ Cond.initialized mX12_go.1.cls ∈ TBg ∧ (mX12_go.1.cls ≠ "java/lang/invoke/MethodHandle" ∧ mX12_go.1.cls ≠ "java/lang/invoke/VarHandle" ∧ (parseMethodDescriptor mX12_go.1.desc).map (fun d => d.parameters.length) = some 1) := ⟨tb_g 1363 rfl rfl, tb_g 124 (by decide +kernel) rfl, by decide +kernel⟩
theorem c_L_69 : CkM RL 69 mX12_go 1 := ⟨q_X12_go.1, q_X12_go.2.1, q_X12_go.2.2, Or.inl (tb_g 1360 (by decide +kernel) rfl)⟩
theorem k_X12_knows : Cond.instanceMethod mX12_knows.1 ∈ TBg ∧ Cond.selects mX12_knows.1.cls mX12_knows.1 mX12_knows.1 ∈ TBg := ⟨tb_g 1365 (by decide +kernel) rfl, tb_g 1366 (by decide +kernel) rfl⟩
set_option maxRecDepth 20000 in
theorem q_X12_knows : Cond.code mX12_knows.1 mX12_knows.2.1 mX12_knows.2.2.1 mX12_knows.2.2.2 ∈ TBg ∧ Cond.initialized mX12_knows.1.cls ∈ TBg ∧ (mX12_knows.1.cls ≠ "java/lang/invoke/MethodHandle" ∧ mX12_knows.1.cls ≠ "java/lang/invoke/VarHandle" ∧ (parseMethodDescriptor mX12_knows.1.desc).map (fun d => d.parameters.length) = some 3) := ⟨tb_g 1367 rfl rfl, tb_g 124 (by decide +kernel) rfl, by decide +kernel⟩
theorem c_L_122 : CkM RL 122 mX12_knows 3 := ⟨q_X12_knows.1, q_X12_knows.2.1, q_X12_knows.2.2, Or.inl (tb_g 1364 (by decide +kernel) rfl)⟩
theorem k_X12_word : Cond.instanceMethod mX12_word.1 ∈ TBg ∧ Cond.selects mX12_word.1.cls mX12_word.1 mX12_word.1 ∈ TBg := ⟨tb_g 1370 (by decide +kernel) rfl, tb_g 91 (by decide +kernel) rfl⟩
set_option maxRecDepth 20000 in
theorem q_X12_word : Cond.code mX12_word.1 mX12_word.2.1 mX12_word.2.2.1 mX12_word.2.2.2 ∈ TBg ∧ Cond.initialized mX12_word.1.cls ∈ TBg ∧ (mX12_word.1.cls ≠ "java/lang/invoke/MethodHandle" ∧ mX12_word.1.cls ≠ "java/lang/invoke/VarHandle" ∧ (parseMethodDescriptor mX12_word.1.desc).map (fun d => d.parameters.length) = some 2) := ⟨tb_g 1371 rfl rfl, tb_g 124 (by decide +kernel) rfl, by decide +kernel⟩
theorem c_X12_260 : CkM RX12 260 mX12_word 2 := ⟨q_X12_word.1, q_X12_word.2.1, q_X12_word.2.2, Or.inl (tb_g 1368 (by decide +kernel) rfl)⟩
theorem k_X12_box : Cond.instanceMethod mX12_box.1 ∈ TBg ∧ Cond.selects mX12_box.1.cls mX12_box.1 mX12_box.1 ∈ TBg := ⟨tb_g 1373 (by decide +kernel) rfl, tb_g 1374 (by decide +kernel) rfl⟩
set_option maxRecDepth 20000 in
theorem q_X12_box : Cond.code mX12_box.1 mX12_box.2.1 mX12_box.2.2.1 mX12_box.2.2.2 ∈ TBg ∧ Cond.initialized mX12_box.1.cls ∈ TBg ∧ (mX12_box.1.cls ≠ "java/lang/invoke/MethodHandle" ∧ mX12_box.1.cls ≠ "java/lang/invoke/VarHandle" ∧ (parseMethodDescriptor mX12_box.1.desc).map (fun d => d.parameters.length) = some 3) := ⟨tb_g 1375 rfl rfl, tb_g 124 (by decide +kernel) rfl, by decide +kernel⟩
theorem c_L_126 : CkM RL 126 mX12_box 3 := ⟨q_X12_box.1, q_X12_box.2.1, q_X12_box.2.2, Or.inl (tb_g 1372 (by decide +kernel) rfl)⟩
theorem k_X12_boatTold : Cond.instanceMethod mX12_boatTold.1 ∈ TBg ∧ Cond.selects mX12_boatTold.1.cls mX12_boatTold.1 mX12_boatTold.1 ∈ TBg := ⟨tb_g 1377 (by decide +kernel) rfl, tb_g 1378 (by decide +kernel) rfl⟩
set_option maxRecDepth 20000 in
theorem q_X12_boatTold : Cond.code mX12_boatTold.1 mX12_boatTold.2.1 mX12_boatTold.2.2.1 mX12_boatTold.2.2.2 ∈ TBg ∧ Cond.initialized mX12_boatTold.1.cls ∈ TBg ∧ (mX12_boatTold.1.cls ≠ "java/lang/invoke/MethodHandle" ∧ mX12_boatTold.1.cls ≠ "java/lang/invoke/VarHandle" ∧ (parseMethodDescriptor mX12_boatTold.1.desc).map (fun d => d.parameters.length) = some 2) := ⟨tb_g 1379 rfl rfl, tb_g 124 (by decide +kernel) rfl, by decide +kernel⟩
theorem c_L_110 : CkM RL 110 mX12_boatTold 2 := ⟨q_X12_boatTold.1, q_X12_boatTold.2.1, q_X12_boatTold.2.2, Or.inl (tb_g 1376 (by decide +kernel) rfl)⟩
theorem k_X12_baleTold : Cond.instanceMethod mX12_baleTold.1 ∈ TBg ∧ Cond.selects mX12_baleTold.1.cls mX12_baleTold.1 mX12_baleTold.1 ∈ TBg := ⟨tb_g 1381 (by decide +kernel) rfl, tb_g 1382 (by decide +kernel) rfl⟩
set_option maxRecDepth 20000 in
theorem q_X12_baleTold : Cond.code mX12_baleTold.1 mX12_baleTold.2.1 mX12_baleTold.2.2.1 mX12_baleTold.2.2.2 ∈ TBg ∧ Cond.initialized mX12_baleTold.1.cls ∈ TBg ∧ (mX12_baleTold.1.cls ≠ "java/lang/invoke/MethodHandle" ∧ mX12_baleTold.1.cls ≠ "java/lang/invoke/VarHandle" ∧ (parseMethodDescriptor mX12_baleTold.1.desc).map (fun d => d.parameters.length) = some 2) := ⟨tb_g 1383 rfl rfl, tb_g 124 (by decide +kernel) rfl, by decide +kernel⟩
theorem c_L_114 : CkM RL 114 mX12_baleTold 2 := ⟨q_X12_baleTold.1, q_X12_baleTold.2.1, q_X12_baleTold.2.2, Or.inl (tb_g 1380 (by decide +kernel) rfl)⟩
theorem k_X12_lading : Cond.instanceMethod mX12_lading.1 ∈ TBg ∧ Cond.selects mX12_lading.1.cls mX12_lading.1 mX12_lading.1 ∈ TBg := ⟨tb_g 1385 (by decide +kernel) rfl, tb_g 1386 (by decide +kernel) rfl⟩
set_option maxRecDepth 20000 in
theorem q_X12_lading : Cond.code mX12_lading.1 mX12_lading.2.1 mX12_lading.2.2.1 mX12_lading.2.2.2 ∈ TBg ∧ Cond.initialized mX12_lading.1.cls ∈ TBg ∧ (mX12_lading.1.cls ≠ "java/lang/invoke/MethodHandle" ∧ mX12_lading.1.cls ≠ "java/lang/invoke/VarHandle" ∧ (parseMethodDescriptor mX12_lading.1.desc).map (fun d => d.parameters.length) = some 2) := ⟨tb_g 1387 rfl rfl, tb_g 124 (by decide +kernel) rfl, by decide +kernel⟩
theorem c_L_130 : CkM RL 130 mX12_lading 2 := ⟨q_X12_lading.1, q_X12_lading.2.1, q_X12_lading.2.2, Or.inl (tb_g 1384 (by decide +kernel) rfl)⟩
theorem k_X12_sumOf : Cond.instanceMethod mX12_sumOf.1 ∈ TBg ∧ Cond.selects mX12_sumOf.1.cls mX12_sumOf.1 mX12_sumOf.1 ∈ TBg := ⟨tb_g 1390 (by decide +kernel) rfl, tb_g 92 (by decide +kernel) rfl⟩
set_option maxRecDepth 20000 in
theorem q_X12_sumOf : Cond.code mX12_sumOf.1 mX12_sumOf.2.1 mX12_sumOf.2.2.1 mX12_sumOf.2.2.2 ∈ TBg ∧ Cond.initialized mX12_sumOf.1.cls ∈ TBg ∧ (mX12_sumOf.1.cls ≠ "java/lang/invoke/MethodHandle" ∧ mX12_sumOf.1.cls ≠ "java/lang/invoke/VarHandle" ∧ (parseMethodDescriptor mX12_sumOf.1.desc).map (fun d => d.parameters.length) = some 2) := ⟨tb_g 1391 rfl rfl, tb_g 124 (by decide +kernel) rfl, by decide +kernel⟩
theorem c_X12_263 : CkM RX12 263 mX12_sumOf 2 := ⟨q_X12_sumOf.1, q_X12_sumOf.2.1, q_X12_sumOf.2.2, Or.inl (tb_g 1388 (by decide +kernel) rfl)⟩
theorem k_X12_yard : Cond.instanceMethod mX12_yard.1 ∈ TBg ∧ Cond.selects mX12_yard.1.cls mX12_yard.1 mX12_yard.1 ∈ TBg := ⟨tb_g 1393 (by decide +kernel) rfl, tb_g 1394 (by decide +kernel) rfl⟩
set_option maxRecDepth 20000 in
theorem q_X12_yard : Cond.code mX12_yard.1 mX12_yard.2.1 mX12_yard.2.2.1 mX12_yard.2.2.2 ∈ TBg ∧ Cond.initialized mX12_yard.1.cls ∈ TBg ∧ (mX12_yard.1.cls ≠ "java/lang/invoke/MethodHandle" ∧ mX12_yard.1.cls ≠ "java/lang/invoke/VarHandle" ∧ (parseMethodDescriptor mX12_yard.1.desc).map (fun d => d.parameters.length) = some 2) := ⟨tb_g 1395 rfl rfl, tb_g 124 (by decide +kernel) rfl, by decide +kernel⟩
theorem c_L_73 : CkM RL 73 mX12_yard 2 := ⟨q_X12_yard.1, q_X12_yard.2.1, q_X12_yard.2.2, Or.inl (tb_g 1392 (by decide +kernel) rfl)⟩
theorem k_X12_wood : Cond.instanceMethod mX12_wood.1 ∈ TBg ∧ Cond.selects mX12_wood.1.cls mX12_wood.1 mX12_wood.1 ∈ TBg := ⟨tb_g 1397 (by decide +kernel) rfl, tb_g 1398 (by decide +kernel) rfl⟩
set_option maxRecDepth 20000 in
theorem q_X12_wood : Cond.code mX12_wood.1 mX12_wood.2.1 mX12_wood.2.2.1 mX12_wood.2.2.2 ∈ TBg ∧ Cond.initialized mX12_wood.1.cls ∈ TBg ∧ (mX12_wood.1.cls ≠ "java/lang/invoke/MethodHandle" ∧ mX12_wood.1.cls ≠ "java/lang/invoke/VarHandle" ∧ (parseMethodDescriptor mX12_wood.1.desc).map (fun d => d.parameters.length) = some 2) := ⟨tb_g 1399 rfl rfl, tb_g 124 (by decide +kernel) rfl, by decide +kernel⟩
theorem c_L_77 : CkM RL 77 mX12_wood 2 := ⟨q_X12_wood.1, q_X12_wood.2.1, q_X12_wood.2.2, Or.inl (tb_g 1396 (by decide +kernel) rfl)⟩
theorem k_X12_wooding : Cond.instanceMethod mX12_wooding.1 ∈ TBg ∧ Cond.selects mX12_wooding.1.cls mX12_wooding.1 mX12_wooding.1 ∈ TBg := ⟨tb_g 1401 (by decide +kernel) rfl, tb_g 1402 (by decide +kernel) rfl⟩
set_option maxRecDepth 20000 in
theorem q_X12_wooding : Cond.code mX12_wooding.1 mX12_wooding.2.1 mX12_wooding.2.2.1 mX12_wooding.2.2.2 ∈ TBg ∧ Cond.initialized mX12_wooding.1.cls ∈ TBg ∧ (mX12_wooding.1.cls ≠ "java/lang/invoke/MethodHandle" ∧ mX12_wooding.1.cls ≠ "java/lang/invoke/VarHandle" ∧ (parseMethodDescriptor mX12_wooding.1.desc).map (fun d => d.parameters.length) = some 3) := ⟨tb_g 1403 rfl rfl, tb_g 124 (by decide +kernel) rfl, by decide +kernel⟩
theorem c_L_134 : CkM RL 134 mX12_wooding 3 := ⟨q_X12_wooding.1, q_X12_wooding.2.1, q_X12_wooding.2.2, Or.inl (tb_g 1400 (by decide +kernel) rfl)⟩
theorem k_X12_findWood : Cond.instanceMethod mX12_findWood.1 ∈ TBg ∧ Cond.selects mX12_findWood.1.cls mX12_findWood.1 mX12_findWood.1 ∈ TBg := ⟨tb_g 1406 (by decide +kernel) rfl, tb_g 93 (by decide +kernel) rfl⟩
set_option maxRecDepth 20000 in
theorem q_X12_findWood : Cond.code mX12_findWood.1 mX12_findWood.2.1 mX12_findWood.2.2.1 mX12_findWood.2.2.2 ∈ TBg ∧ Cond.initialized mX12_findWood.1.cls ∈ TBg ∧ (mX12_findWood.1.cls ≠ "java/lang/invoke/MethodHandle" ∧ mX12_findWood.1.cls ≠ "java/lang/invoke/VarHandle" ∧ (parseMethodDescriptor mX12_findWood.1.desc).map (fun d => d.parameters.length) = some 3) := ⟨tb_g 1407 rfl rfl, tb_g 124 (by decide +kernel) rfl, by decide +kernel⟩
theorem c_X12_281 : CkM RX12 281 mX12_findWood 3 := ⟨q_X12_findWood.1, q_X12_findWood.2.1, q_X12_findWood.2.2, Or.inl (tb_g 1404 (by decide +kernel) rfl)⟩
theorem k_X12_buysAt : Cond.instanceMethod mX12_buysAt.1 ∈ TBg ∧ Cond.selects mX12_buysAt.1.cls mX12_buysAt.1 mX12_buysAt.1 ∈ TBg := ⟨tb_g 1410 (by decide +kernel) rfl, tb_g 94 (by decide +kernel) rfl⟩
set_option maxRecDepth 20000 in
theorem q_X12_buysAt : Cond.code mX12_buysAt.1 mX12_buysAt.2.1 mX12_buysAt.2.2.1 mX12_buysAt.2.2.2 ∈ TBg ∧ Cond.initialized mX12_buysAt.1.cls ∈ TBg ∧ (mX12_buysAt.1.cls ≠ "java/lang/invoke/MethodHandle" ∧ mX12_buysAt.1.cls ≠ "java/lang/invoke/VarHandle" ∧ (parseMethodDescriptor mX12_buysAt.1.desc).map (fun d => d.parameters.length) = some 5) := ⟨tb_g 1411 rfl rfl, tb_g 124 (by decide +kernel) rfl, by decide +kernel⟩
theorem c_X12_277 : CkM RX12 277 mX12_buysAt 5 := ⟨q_X12_buysAt.1, q_X12_buysAt.2.1, q_X12_buysAt.2.2, Or.inl (tb_g 1408 (by decide +kernel) rfl)⟩
theorem k_X12_landingOf : Cond.static mX12_landingOf.1 ∈ TBg := tb_g 1413 (by decide +kernel) rfl
set_option maxRecDepth 20000 in
theorem q_X12_landingOf : Cond.code mX12_landingOf.1 mX12_landingOf.2.1 mX12_landingOf.2.2.1 mX12_landingOf.2.2.2 ∈ TBg ∧ Cond.initialized mX12_landingOf.1.cls ∈ TBg ∧ (mX12_landingOf.1.cls ≠ "java/lang/invoke/MethodHandle" ∧ mX12_landingOf.1.cls ≠ "java/lang/invoke/VarHandle" ∧ (parseMethodDescriptor mX12_landingOf.1.desc).map (fun d => d.parameters.length) = some 3) := ⟨tb_g 1414 rfl rfl, tb_g 124 (by decide +kernel) rfl, by decide +kernel⟩
theorem c_X12_266 : CkM RX12 266 mX12_landingOf 3 := ⟨q_X12_landingOf.1, q_X12_landingOf.2.1, q_X12_landingOf.2.2, Or.inl (tb_g 1412 (by decide +kernel) rfl)⟩
theorem k_X12_stretchOf : Cond.static mX12_stretchOf.1 ∈ TBg := tb_g 1416 (by decide +kernel) rfl
set_option maxRecDepth 20000 in
theorem q_X12_stretchOf : Cond.code mX12_stretchOf.1 mX12_stretchOf.2.1 mX12_stretchOf.2.2.1 mX12_stretchOf.2.2.2 ∈ TBg ∧ Cond.initialized mX12_stretchOf.1.cls ∈ TBg ∧ (mX12_stretchOf.1.cls ≠ "java/lang/invoke/MethodHandle" ∧ mX12_stretchOf.1.cls ≠ "java/lang/invoke/VarHandle" ∧ (parseMethodDescriptor mX12_stretchOf.1.desc).map (fun d => d.parameters.length) = some 3) := ⟨tb_g 1417 rfl rfl, tb_g 124 (by decide +kernel) rfl, by decide +kernel⟩
theorem c_X12_270 : CkM RX12 270 mX12_stretchOf 3 := ⟨q_X12_stretchOf.1, q_X12_stretchOf.2.1, q_X12_stretchOf.2.2, Or.inl (tb_g 1415 (by decide +kernel) rfl)⟩
theorem k_X12_bought : Cond.instanceMethod mX12_bought.1 ∈ TBg ∧ Cond.selects mX12_bought.1.cls mX12_bought.1 mX12_bought.1 ∈ TBg := ⟨tb_g 1420 (by decide +kernel) rfl, tb_g 1421 (by decide +kernel) rfl⟩
set_option maxRecDepth 20000 in
theorem q_X12_bought : Cond.code mX12_bought.1 mX12_bought.2.1 mX12_bought.2.2.1 mX12_bought.2.2.2 ∈ TBg ∧ Cond.initialized mX12_bought.1.cls ∈ TBg ∧ (mX12_bought.1.cls ≠ "java/lang/invoke/MethodHandle" ∧ mX12_bought.1.cls ≠ "java/lang/invoke/VarHandle" ∧ (parseMethodDescriptor mX12_bought.1.desc).map (fun d => d.parameters.length) = some 4) := ⟨tb_g 1422 rfl rfl, tb_g 124 (by decide +kernel) rfl, by decide +kernel⟩
theorem c_L_138 : CkM RL 138 mX12_bought 4 := ⟨q_X12_bought.1, q_X12_bought.2.1, q_X12_bought.2.2, Or.inl (tb_g 1419 (by decide +kernel) rfl)⟩
theorem c_X12_284 : CkM RX12 284 mX12_wooding 3 := ⟨q_X12_wooding.1, q_X12_wooding.2.1, q_X12_wooding.2.2, Or.inl (tb_g 1423 (by decide +kernel) rfl)⟩
theorem k_X12_trip : Cond.instanceMethod mX12_trip.1 ∈ TBg ∧ Cond.selects mX12_trip.1.cls mX12_trip.1 mX12_trip.1 ∈ TBg := ⟨tb_g 1425 (by decide +kernel) rfl, tb_g 1426 (by decide +kernel) rfl⟩
set_option maxRecDepth 20000 in
theorem q_X12_trip : Cond.code mX12_trip.1 mX12_trip.2.1 mX12_trip.2.2.1 mX12_trip.2.2.2 ∈ TBg ∧ Cond.initialized mX12_trip.1.cls ∈ TBg ∧ (mX12_trip.1.cls ≠ "java/lang/invoke/MethodHandle" ∧ mX12_trip.1.cls ≠ "java/lang/invoke/VarHandle" ∧ (parseMethodDescriptor mX12_trip.1.desc).map (fun d => d.parameters.length) = some 3) := ⟨tb_g 1427 rfl rfl, tb_g 124 (by decide +kernel) rfl, by decide +kernel⟩
theorem c_L_81 : CkM RL 81 mX12_trip 3 := ⟨q_X12_trip.1, q_X12_trip.2.1, q_X12_trip.2.2, Or.inl (tb_g 1424 (by decide +kernel) rfl)⟩
theorem k_X12_lights : Cond.instanceMethod mX12_lights.1 ∈ TBg ∧ Cond.selects mX12_lights.1.cls mX12_lights.1 mX12_lights.1 ∈ TBg := ⟨tb_g 1429 (by decide +kernel) rfl, tb_g 1430 (by decide +kernel) rfl⟩
set_option maxRecDepth 20000 in
theorem q_X12_lights : Cond.code mX12_lights.1 mX12_lights.2.1 mX12_lights.2.2.1 mX12_lights.2.2.2 ∈ TBg ∧ Cond.initialized mX12_lights.1.cls ∈ TBg ∧ (mX12_lights.1.cls ≠ "java/lang/invoke/MethodHandle" ∧ mX12_lights.1.cls ≠ "java/lang/invoke/VarHandle" ∧ (parseMethodDescriptor mX12_lights.1.desc).map (fun d => d.parameters.length) = some 0) := ⟨tb_g 1431 rfl rfl, tb_g 124 (by decide +kernel) rfl, by decide +kernel⟩
theorem c_L_142 : CkM RL 142 mX12_lights 0 := ⟨q_X12_lights.1, q_X12_lights.2.1, q_X12_lights.2.2, Or.inl (tb_g 1428 (by decide +kernel) rfl)⟩
theorem k_X12_many : Cond.static mX12_many.1 ∈ TBg := tb_g 1433 (by decide +kernel) rfl
set_option maxRecDepth 20000 in
theorem q_X12_many : Cond.code mX12_many.1 mX12_many.2.1 mX12_many.2.2.1 mX12_many.2.2.2 ∈ TBg ∧ Cond.initialized mX12_many.1.cls ∈ TBg ∧ (mX12_many.1.cls ≠ "java/lang/invoke/MethodHandle" ∧ mX12_many.1.cls ≠ "java/lang/invoke/VarHandle" ∧ (parseMethodDescriptor mX12_many.1.desc).map (fun d => d.parameters.length) = some 1) := ⟨tb_g 1434 rfl rfl, tb_g 124 (by decide +kernel) rfl, by decide +kernel⟩
theorem c_X12_290 : CkM RX12 290 mX12_many 1 := ⟨q_X12_many.1, q_X12_many.2.1, q_X12_many.2.2, Or.inl (tb_g 1432 (by decide +kernel) rfl)⟩
theorem k_X12_helps : Cond.instanceMethod mX12_helps.1 ∈ TBg ∧ Cond.selects mX12_helps.1.cls mX12_helps.1 mX12_helps.1 ∈ TBg := ⟨tb_g 1437 (by decide +kernel) rfl, tb_g 95 (by decide +kernel) rfl⟩
set_option maxRecDepth 20000 in
theorem q_X12_helps : Cond.code mX12_helps.1 mX12_helps.2.1 mX12_helps.2.2.1 mX12_helps.2.2.2 ∈ TBg ∧ Cond.initialized mX12_helps.1.cls ∈ TBg ∧ (mX12_helps.1.cls ≠ "java/lang/invoke/MethodHandle" ∧ mX12_helps.1.cls ≠ "java/lang/invoke/VarHandle" ∧ (parseMethodDescriptor mX12_helps.1.desc).map (fun d => d.parameters.length) = some 1) := ⟨tb_g 1438 rfl rfl, tb_g 124 (by decide +kernel) rfl, by decide +kernel⟩
theorem c_X12_293 : CkM RX12 293 mX12_helps 1 := ⟨q_X12_helps.1, q_X12_helps.2.1, q_X12_helps.2.2, Or.inl (tb_g 1435 (by decide +kernel) rfl)⟩
theorem k_X12_rule : Cond.instanceMethod mX12_rule.1 ∈ TBg ∧ Cond.selects mX12_rule.1.cls mX12_rule.1 mX12_rule.1 ∈ TBg := ⟨tb_g 1440 (by decide +kernel) rfl, tb_g 1441 (by decide +kernel) rfl⟩
set_option maxRecDepth 20000 in
theorem q_X12_rule : Cond.code mX12_rule.1 mX12_rule.2.1 mX12_rule.2.2.1 mX12_rule.2.2.2 ∈ TBg ∧ Cond.initialized mX12_rule.1.cls ∈ TBg ∧ (mX12_rule.1.cls ≠ "java/lang/invoke/MethodHandle" ∧ mX12_rule.1.cls ≠ "java/lang/invoke/VarHandle" ∧ (parseMethodDescriptor mX12_rule.1.desc).map (fun d => d.parameters.length) = some 3) := ⟨tb_g 1442 rfl rfl, tb_g 124 (by decide +kernel) rfl, by decide +kernel⟩
theorem c_L_85 : CkM RL 85 mX12_rule 3 := ⟨q_X12_rule.1, q_X12_rule.2.1, q_X12_rule.2.2, Or.inl (tb_g 1439 (by decide +kernel) rfl)⟩
theorem k_X12_gives : Cond.instanceMethod mX12_gives.1 ∈ TBg ∧ Cond.selects mX12_gives.1.cls mX12_gives.1 mX12_gives.1 ∈ TBg := ⟨tb_g 1444 (by decide +kernel) rfl, tb_g 1445 (by decide +kernel) rfl⟩
set_option maxRecDepth 20000 in
theorem q_X12_gives : Cond.code mX12_gives.1 mX12_gives.2.1 mX12_gives.2.2.1 mX12_gives.2.2.2 ∈ TBg ∧ Cond.initialized mX12_gives.1.cls ∈ TBg ∧ (mX12_gives.1.cls ≠ "java/lang/invoke/MethodHandle" ∧ mX12_gives.1.cls ≠ "java/lang/invoke/VarHandle" ∧ (parseMethodDescriptor mX12_gives.1.desc).map (fun d => d.parameters.length) = some 5) := ⟨tb_g 1446 rfl rfl, tb_g 124 (by decide +kernel) rfl, by decide +kernel⟩
theorem c_L_147 : CkM RL 147 mX12_gives 5 := ⟨q_X12_gives.1, q_X12_gives.2.1, q_X12_gives.2.2, Or.inl (tb_g 1443 (by decide +kernel) rfl)⟩
theorem k_X12_isUnder : Cond.static mX12_isUnder.1 ∈ TBg := tb_g 1448 (by decide +kernel) rfl
set_option maxRecDepth 20000 in
theorem q_X12_isUnder : Cond.code mX12_isUnder.1 mX12_isUnder.2.1 mX12_isUnder.2.2.1 mX12_isUnder.2.2.2 ∈ TBg ∧ Cond.initialized mX12_isUnder.1.cls ∈ TBg ∧ (mX12_isUnder.1.cls ≠ "java/lang/invoke/MethodHandle" ∧ mX12_isUnder.1.cls ≠ "java/lang/invoke/VarHandle" ∧ (parseMethodDescriptor mX12_isUnder.1.desc).map (fun d => d.parameters.length) = some 2) := ⟨tb_g 1449 rfl rfl, tb_g 124 (by decide +kernel) rfl, by decide +kernel⟩
theorem c_X12_299 : CkM RX12 299 mX12_isUnder 2 := ⟨q_X12_isUnder.1, q_X12_isUnder.2.1, q_X12_isUnder.2.2, Or.inl (tb_g 1447 (by decide +kernel) rfl)⟩
theorem k_X12_tells : Cond.instanceMethod mX12_tells.1 ∈ TBg ∧ Cond.selects mX12_tells.1.cls mX12_tells.1 mX12_tells.1 ∈ TBg := ⟨tb_g 1452 (by decide +kernel) rfl, tb_g 96 (by decide +kernel) rfl⟩
set_option maxRecDepth 20000 in
theorem q_X12_tells : Cond.code mX12_tells.1 mX12_tells.2.1 mX12_tells.2.2.1 mX12_tells.2.2.2 ∈ TBg ∧ Cond.initialized mX12_tells.1.cls ∈ TBg ∧ (mX12_tells.1.cls ≠ "java/lang/invoke/MethodHandle" ∧ mX12_tells.1.cls ≠ "java/lang/invoke/VarHandle" ∧ (parseMethodDescriptor mX12_tells.1.desc).map (fun d => d.parameters.length) = some 5) := ⟨tb_g 1453 rfl rfl, tb_g 124 (by decide +kernel) rfl, by decide +kernel⟩
theorem c_X12_303 : CkM RX12 303 mX12_tells 5 := ⟨q_X12_tells.1, q_X12_tells.2.1, q_X12_tells.2.2, Or.inl (tb_g 1450 (by decide +kernel) rfl)⟩
theorem k_X12_image : Cond.instanceMethod mX12_image.1 ∈ TBg ∧ Cond.selects mX12_image.1.cls mX12_image.1 mX12_image.1 ∈ TBg := ⟨tb_g 1455 (by decide +kernel) rfl, tb_g 1456 (by decide +kernel) rfl⟩
set_option maxRecDepth 20000 in
theorem q_X12_image : Cond.code mX12_image.1 mX12_image.2.1 mX12_image.2.2.1 mX12_image.2.2.2 ∈ TBg ∧ Cond.initialized mX12_image.1.cls ∈ TBg ∧ (mX12_image.1.cls ≠ "java/lang/invoke/MethodHandle" ∧ mX12_image.1.cls ≠ "java/lang/invoke/VarHandle" ∧ (parseMethodDescriptor mX12_image.1.desc).map (fun d => d.parameters.length) = some 0) := ⟨tb_g 1457 rfl rfl, tb_g 124 (by decide +kernel) rfl, by decide +kernel⟩
theorem c_L_90 : CkM RL 90 mX12_image 0 := ⟨q_X12_image.1, q_X12_image.2.1, q_X12_image.2.2, Or.inl (tb_g 1454 (by decide +kernel) rfl)⟩
theorem k_X12_back : Cond.instanceMethod mX12_back.1 ∈ TBg ∧ Cond.selects mX12_back.1.cls mX12_back.1 mX12_back.1 ∈ TBg := ⟨tb_g 1459 (by decide +kernel) rfl, tb_g 1460 (by decide +kernel) rfl⟩
set_option maxRecDepth 20000 in
theorem q_X12_back : Cond.code mX12_back.1 mX12_back.2.1 mX12_back.2.2.1 mX12_back.2.2.2 ∈ TBg ∧ Cond.initialized mX12_back.1.cls ∈ TBg ∧ (mX12_back.1.cls ≠ "java/lang/invoke/MethodHandle" ∧ mX12_back.1.cls ≠ "java/lang/invoke/VarHandle" ∧ (parseMethodDescriptor mX12_back.1.desc).map (fun d => d.parameters.length) = some 0) := ⟨tb_g 1461 rfl rfl, tb_g 124 (by decide +kernel) rfl, by decide +kernel⟩
theorem c_L_94 : CkM RL 94 mX12_back 0 := ⟨q_X12_back.1, q_X12_back.2.1, q_X12_back.2.2, Or.inl (tb_g 1458 (by decide +kernel) rfl)⟩
theorem k_X12_lay : Cond.instanceMethod mX12_lay.1 ∈ TBg ∧ Cond.selects mX12_lay.1.cls mX12_lay.1 mX12_lay.1 ∈ TBg := ⟨tb_g 1464 (by decide +kernel) rfl, tb_g 97 (by decide +kernel) rfl⟩
set_option maxRecDepth 20000 in
theorem q_X12_lay : Cond.code mX12_lay.1 mX12_lay.2.1 mX12_lay.2.2.1 mX12_lay.2.2.2 ∈ TBg ∧ Cond.initialized mX12_lay.1.cls ∈ TBg ∧ (mX12_lay.1.cls ≠ "java/lang/invoke/MethodHandle" ∧ mX12_lay.1.cls ≠ "java/lang/invoke/VarHandle" ∧ (parseMethodDescriptor mX12_lay.1.desc).map (fun d => d.parameters.length) = some 0) := ⟨tb_g 1465 rfl rfl, tb_g 124 (by decide +kernel) rfl, by decide +kernel⟩
theorem c_X12_314 : CkM RX12 314 mX12_lay 0 := ⟨q_X12_lay.1, q_X12_lay.2.1, q_X12_lay.2.2, Or.inl (tb_g 1462 (by decide +kernel) rfl)⟩
theorem k_X12_count : Cond.instanceMethod mX12_count.1 ∈ TBg ∧ Cond.selects mX12_count.1.cls mX12_count.1 mX12_count.1 ∈ TBg := ⟨tb_g 1467 (by decide +kernel) rfl, tb_g 1468 (by decide +kernel) rfl⟩
set_option maxRecDepth 20000 in
theorem q_X12_count : Cond.code mX12_count.1 mX12_count.2.1 mX12_count.2.2.1 mX12_count.2.2.2 ∈ TBg ∧ Cond.initialized mX12_count.1.cls ∈ TBg ∧ (mX12_count.1.cls ≠ "java/lang/invoke/MethodHandle" ∧ mX12_count.1.cls ≠ "java/lang/invoke/VarHandle" ∧ (parseMethodDescriptor mX12_count.1.desc).map (fun d => d.parameters.length) = some 1) := ⟨tb_g 1469 rfl rfl, tb_g 124 (by decide +kernel) rfl, by decide +kernel⟩
theorem c_L_151 : CkM RL 151 mX12_count 1 := ⟨q_X12_count.1, q_X12_count.2.1, q_X12_count.2.2, Or.inl (tb_g 1466 (by decide +kernel) rfl)⟩
theorem k_X12_act : Cond.instanceMethod mX12_act.1 ∈ TBg ∧ Cond.selects mX12_act.1.cls mX12_act.1 mX12_act.1 ∈ TBg := ⟨tb_g 1471 (by decide +kernel) rfl, tb_g 1472 (by decide +kernel) rfl⟩
set_option maxRecDepth 20000 in
theorem q_X12_act : Cond.code mX12_act.1 mX12_act.2.1 mX12_act.2.2.1 mX12_act.2.2.2 ∈ TBg ∧ Cond.initialized mX12_act.1.cls ∈ TBg ∧ (mX12_act.1.cls ≠ "java/lang/invoke/MethodHandle" ∧ mX12_act.1.cls ≠ "java/lang/invoke/VarHandle" ∧ (parseMethodDescriptor mX12_act.1.desc).map (fun d => d.parameters.length) = some 3) := ⟨tb_g 1473 rfl rfl, tb_g 124 (by decide +kernel) rfl, by decide +kernel⟩
theorem c_L_155 : CkM RL 155 mX12_act 3 := ⟨q_X12_act.1, q_X12_act.2.1, q_X12_act.2.2, Or.inl (tb_g 1470 (by decide +kernel) rfl)⟩
theorem k_X12_bearOf : Cond.instanceMethod mX12_bearOf.1 ∈ TBg ∧ Cond.selects mX12_bearOf.1.cls mX12_bearOf.1 mX12_bearOf.1 ∈ TBg := ⟨tb_g 1476 (by decide +kernel) rfl, tb_g 98 (by decide +kernel) rfl⟩
set_option maxRecDepth 20000 in
theorem q_X12_bearOf : Cond.code mX12_bearOf.1 mX12_bearOf.2.1 mX12_bearOf.2.2.1 mX12_bearOf.2.2.2 ∈ TBg ∧ Cond.initialized mX12_bearOf.1.cls ∈ TBg ∧ (mX12_bearOf.1.cls ≠ "java/lang/invoke/MethodHandle" ∧ mX12_bearOf.1.cls ≠ "java/lang/invoke/VarHandle" ∧ (parseMethodDescriptor mX12_bearOf.1.desc).map (fun d => d.parameters.length) = some 2) := ⟨tb_g 1477 rfl rfl, tb_g 124 (by decide +kernel) rfl, by decide +kernel⟩
theorem c_X12_333 : CkM RX12 333 mX12_bearOf 2 := ⟨q_X12_bearOf.1, q_X12_bearOf.2.1, q_X12_bearOf.2.2, Or.inl (tb_g 1474 (by decide +kernel) rfl)⟩
theorem k_X12_ran : Cond.instanceMethod mX12_ran.1 ∈ TBg ∧ Cond.selects mX12_ran.1.cls mX12_ran.1 mX12_ran.1 ∈ TBg := ⟨tb_g 1480 (by decide +kernel) rfl, tb_g 99 (by decide +kernel) rfl⟩
set_option maxRecDepth 20000 in
theorem q_X12_ran : Cond.code mX12_ran.1 mX12_ran.2.1 mX12_ran.2.2.1 mX12_ran.2.2.2 ∈ TBg ∧ Cond.initialized mX12_ran.1.cls ∈ TBg ∧ (mX12_ran.1.cls ≠ "java/lang/invoke/MethodHandle" ∧ mX12_ran.1.cls ≠ "java/lang/invoke/VarHandle" ∧ (parseMethodDescriptor mX12_ran.1.desc).map (fun d => d.parameters.length) = some 1) := ⟨tb_g 1481 rfl rfl, tb_g 124 (by decide +kernel) rfl, by decide +kernel⟩
theorem c_X12_320 : CkM RX12 320 mX12_ran 1 := ⟨q_X12_ran.1, q_X12_ran.2.1, q_X12_ran.2.2, Or.inl (tb_g 1478 (by decide +kernel) rfl)⟩
theorem k_X12_bear20 : Cond.instanceMethod mX12_bear20.1 ∈ TBg ∧ Cond.selects mX12_bear20.1.cls mX12_bear20.1 mX12_bear20.1 ∈ TBg := ⟨tb_g 1484 (by decide +kernel) rfl, tb_g 100 (by decide +kernel) rfl⟩
set_option maxRecDepth 20000 in
theorem q_X12_bear20 : Cond.code mX12_bear20.1 mX12_bear20.2.1 mX12_bear20.2.2.1 mX12_bear20.2.2.2 ∈ TBg ∧ Cond.initialized mX12_bear20.1.cls ∈ TBg ∧ (mX12_bear20.1.cls ≠ "java/lang/invoke/MethodHandle" ∧ mX12_bear20.1.cls ≠ "java/lang/invoke/VarHandle" ∧ (parseMethodDescriptor mX12_bear20.1.desc).map (fun d => d.parameters.length) = some 2) := ⟨tb_g 1485 rfl rfl, tb_g 124 (by decide +kernel) rfl, by decide +kernel⟩
theorem c_X12_327 : CkM RX12 327 mX12_bear20 2 := ⟨q_X12_bear20.1, q_X12_bear20.2.1, q_X12_bear20.2.2, Or.inl (tb_g 1482 (by decide +kernel) rfl)⟩
theorem k_X12_bear10 : Cond.instanceMethod mX12_bear10.1 ∈ TBg ∧ Cond.selects mX12_bear10.1.cls mX12_bear10.1 mX12_bear10.1 ∈ TBg := ⟨tb_g 1488 (by decide +kernel) rfl, tb_g 101 (by decide +kernel) rfl⟩
set_option maxRecDepth 20000 in
theorem q_X12_bear10 : Cond.code mX12_bear10.1 mX12_bear10.2.1 mX12_bear10.2.2.1 mX12_bear10.2.2.2 ∈ TBg ∧ Cond.initialized mX12_bear10.1.cls ∈ TBg ∧ (mX12_bear10.1.cls ≠ "java/lang/invoke/MethodHandle" ∧ mX12_bear10.1.cls ≠ "java/lang/invoke/VarHandle" ∧ (parseMethodDescriptor mX12_bear10.1.desc).map (fun d => d.parameters.length) = some 2) := ⟨tb_g 1489 rfl rfl, tb_g 124 (by decide +kernel) rfl, by decide +kernel⟩
theorem c_X12_324 : CkM RX12 324 mX12_bear10 2 := ⟨q_X12_bear10.1, q_X12_bear10.2.1, q_X12_bear10.2.2, Or.inl (tb_g 1486 (by decide +kernel) rfl)⟩
theorem k_X12_moveOf : Cond.instanceMethod mX12_moveOf.1 ∈ TBg ∧ Cond.selects mX12_moveOf.1.cls mX12_moveOf.1 mX12_moveOf.1 ∈ TBg := ⟨tb_g 1492 (by decide +kernel) rfl, tb_g 102 (by decide +kernel) rfl⟩
set_option maxRecDepth 20000 in
theorem q_X12_moveOf : Cond.code mX12_moveOf.1 mX12_moveOf.2.1 mX12_moveOf.2.2.1 mX12_moveOf.2.2.2 ∈ TBg ∧ Cond.initialized mX12_moveOf.1.cls ∈ TBg ∧ (mX12_moveOf.1.cls ≠ "java/lang/invoke/MethodHandle" ∧ mX12_moveOf.1.cls ≠ "java/lang/invoke/VarHandle" ∧ (parseMethodDescriptor mX12_moveOf.1.desc).map (fun d => d.parameters.length) = some 2) := ⟨tb_g 1493 rfl rfl, tb_g 124 (by decide +kernel) rfl, by decide +kernel⟩
theorem c_X12_342 : CkM RX12 342 mX12_moveOf 2 := ⟨q_X12_moveOf.1, q_X12_moveOf.2.1, q_X12_moveOf.2.2, Or.inl (tb_g 1490 (by decide +kernel) rfl)⟩
theorem k_X12_move11 : Cond.instanceMethod mX12_move11.1 ∈ TBg ∧ Cond.selects mX12_move11.1.cls mX12_move11.1 mX12_move11.1 ∈ TBg := ⟨tb_g 1496 (by decide +kernel) rfl, tb_g 103 (by decide +kernel) rfl⟩
set_option maxRecDepth 20000 in
theorem q_X12_move11 : Cond.code mX12_move11.1 mX12_move11.2.1 mX12_move11.2.2.1 mX12_move11.2.2.2 ∈ TBg ∧ Cond.initialized mX12_move11.1.cls ∈ TBg ∧ (mX12_move11.1.cls ≠ "java/lang/invoke/MethodHandle" ∧ mX12_move11.1.cls ≠ "java/lang/invoke/VarHandle" ∧ (parseMethodDescriptor mX12_move11.1.desc).map (fun d => d.parameters.length) = some 2) := ⟨tb_g 1497 rfl rfl, tb_g 124 (by decide +kernel) rfl, by decide +kernel⟩
theorem c_X12_336 : CkM RX12 336 mX12_move11 2 := ⟨q_X12_move11.1, q_X12_move11.2.1, q_X12_move11.2.2, Or.inl (tb_g 1494 (by decide +kernel) rfl)⟩
theorem k_X12_barOf : Cond.instanceMethod mX12_barOf.1 ∈ TBg ∧ Cond.selects mX12_barOf.1.cls mX12_barOf.1 mX12_barOf.1 ∈ TBg := ⟨tb_g 1500 (by decide +kernel) rfl, tb_g 104 (by decide +kernel) rfl⟩
set_option maxRecDepth 20000 in
theorem q_X12_barOf : Cond.code mX12_barOf.1 mX12_barOf.2.1 mX12_barOf.2.2.1 mX12_barOf.2.2.2 ∈ TBg ∧ Cond.initialized mX12_barOf.1.cls ∈ TBg ∧ (mX12_barOf.1.cls ≠ "java/lang/invoke/MethodHandle" ∧ mX12_barOf.1.cls ≠ "java/lang/invoke/VarHandle" ∧ (parseMethodDescriptor mX12_barOf.1.desc).map (fun d => d.parameters.length) = some 2) := ⟨tb_g 1501 rfl rfl, tb_g 124 (by decide +kernel) rfl, by decide +kernel⟩
theorem c_X12_339 : CkM RX12 339 mX12_barOf 2 := ⟨q_X12_barOf.1, q_X12_barOf.2.1, q_X12_barOf.2.2, Or.inl (tb_g 1498 (by decide +kernel) rfl)⟩
theorem k_X12_bar12 : Cond.instanceMethod mX12_bar12.1 ∈ TBg ∧ Cond.selects mX12_bar12.1.cls mX12_bar12.1 mX12_bar12.1 ∈ TBg := ⟨tb_g 1504 (by decide +kernel) rfl, tb_g 105 (by decide +kernel) rfl⟩
set_option maxRecDepth 20000 in
theorem q_X12_bar12 : Cond.code mX12_bar12.1 mX12_bar12.2.1 mX12_bar12.2.2.1 mX12_bar12.2.2.2 ∈ TBg ∧ Cond.initialized mX12_bar12.1.cls ∈ TBg ∧ (mX12_bar12.1.cls ≠ "java/lang/invoke/MethodHandle" ∧ mX12_bar12.1.cls ≠ "java/lang/invoke/VarHandle" ∧ (parseMethodDescriptor mX12_bar12.1.desc).map (fun d => d.parameters.length) = some 2) := ⟨tb_g 1505 rfl rfl, tb_g 124 (by decide +kernel) rfl, by decide +kernel⟩
theorem c_X12_330 : CkM RX12 330 mX12_bar12 2 := ⟨q_X12_bar12.1, q_X12_bar12.2.1, q_X12_bar12.2.2, Or.inl (tb_g 1502 (by decide +kernel) rfl)⟩
theorem k_X12_tellOf : Cond.instanceMethod mX12_tellOf.1 ∈ TBg ∧ Cond.selects mX12_tellOf.1.cls mX12_tellOf.1 mX12_tellOf.1 ∈ TBg := ⟨tb_g 1508 (by decide +kernel) rfl, tb_g 106 (by decide +kernel) rfl⟩
set_option maxRecDepth 20000 in
theorem q_X12_tellOf : Cond.code mX12_tellOf.1 mX12_tellOf.2.1 mX12_tellOf.2.2.1 mX12_tellOf.2.2.2 ∈ TBg ∧ Cond.initialized mX12_tellOf.1.cls ∈ TBg ∧ (mX12_tellOf.1.cls ≠ "java/lang/invoke/MethodHandle" ∧ mX12_tellOf.1.cls ≠ "java/lang/invoke/VarHandle" ∧ (parseMethodDescriptor mX12_tellOf.1.desc).map (fun d => d.parameters.length) = some 2) := ⟨tb_g 1509 rfl rfl, tb_g 124 (by decide +kernel) rfl, by decide +kernel⟩
theorem c_X12_348 : CkM RX12 348 mX12_tellOf 2 := ⟨q_X12_tellOf.1, q_X12_tellOf.2.1, q_X12_tellOf.2.2, Or.inl (tb_g 1506 (by decide +kernel) rfl)⟩
theorem k_X12_tell13 : Cond.instanceMethod mX12_tell13.1 ∈ TBg ∧ Cond.selects mX12_tell13.1.cls mX12_tell13.1 mX12_tell13.1 ∈ TBg := ⟨tb_g 1512 (by decide +kernel) rfl, tb_g 107 (by decide +kernel) rfl⟩
set_option maxRecDepth 20000 in
theorem q_X12_tell13 : Cond.code mX12_tell13.1 mX12_tell13.2.1 mX12_tell13.2.2.1 mX12_tell13.2.2.2 ∈ TBg ∧ Cond.initialized mX12_tell13.1.cls ∈ TBg ∧ (mX12_tell13.1.cls ≠ "java/lang/invoke/MethodHandle" ∧ mX12_tell13.1.cls ≠ "java/lang/invoke/VarHandle" ∧ (parseMethodDescriptor mX12_tell13.1.desc).map (fun d => d.parameters.length) = some 2) := ⟨tb_g 1513 rfl rfl, tb_g 124 (by decide +kernel) rfl, by decide +kernel⟩
theorem c_X12_345 : CkM RX12 345 mX12_tell13 2 := ⟨q_X12_tell13.1, q_X12_tell13.2.1, q_X12_tell13.2.2, Or.inl (tb_g 1510 (by decide +kernel) rfl)⟩
theorem k_X12_trace : Cond.instanceMethod mX12_trace.1 ∈ TBg ∧ Cond.selects mX12_trace.1.cls mX12_trace.1 mX12_trace.1 ∈ TBg := ⟨tb_g 1515 (by decide +kernel) rfl, tb_g 1516 (by decide +kernel) rfl⟩
set_option maxRecDepth 20000 in
theorem q_X12_trace : Cond.code mX12_trace.1 mX12_trace.2.1 mX12_trace.2.2.1 mX12_trace.2.2.2 ∈ TBg ∧ Cond.initialized mX12_trace.1.cls ∈ TBg ∧ (mX12_trace.1.cls ≠ "java/lang/invoke/MethodHandle" ∧ mX12_trace.1.cls ≠ "java/lang/invoke/VarHandle" ∧ (parseMethodDescriptor mX12_trace.1.desc).map (fun d => d.parameters.length) = some 1) := ⟨tb_g 1517 rfl rfl, tb_g 124 (by decide +kernel) rfl, by decide +kernel⟩
theorem c_L_159 : CkM RL 159 mX12_trace 1 := ⟨q_X12_trace.1, q_X12_trace.2.1, q_X12_trace.2.2, Or.inl (tb_g 1514 (by decide +kernel) rfl)⟩
theorem k_X12_sheet : Cond.instanceMethod mX12_sheet.1 ∈ TBg ∧ Cond.selects mX12_sheet.1.cls mX12_sheet.1 mX12_sheet.1 ∈ TBg := ⟨tb_g 1519 (by decide +kernel) rfl, tb_g 1520 (by decide +kernel) rfl⟩
set_option maxRecDepth 20000 in
theorem q_X12_sheet : Cond.code mX12_sheet.1 mX12_sheet.2.1 mX12_sheet.2.2.1 mX12_sheet.2.2.2 ∈ TBg ∧ Cond.initialized mX12_sheet.1.cls ∈ TBg ∧ (mX12_sheet.1.cls ≠ "java/lang/invoke/MethodHandle" ∧ mX12_sheet.1.cls ≠ "java/lang/invoke/VarHandle" ∧ (parseMethodDescriptor mX12_sheet.1.desc).map (fun d => d.parameters.length) = some 3) := ⟨tb_g 1521 rfl rfl, tb_g 124 (by decide +kernel) rfl, by decide +kernel⟩
theorem c_L_163 : CkM RL 163 mX12_sheet 3 := ⟨q_X12_sheet.1, q_X12_sheet.2.1, q_X12_sheet.2.2, Or.inl (tb_g 1518 (by decide +kernel) rfl)⟩
theorem k_X12_cell : Cond.instanceMethod mX12_cell.1 ∈ TBg ∧ Cond.selects mX12_cell.1.cls mX12_cell.1 mX12_cell.1 ∈ TBg := ⟨tb_g 1523 (by decide +kernel) rfl, tb_g 1524 (by decide +kernel) rfl⟩
set_option maxRecDepth 20000 in
theorem q_X12_cell : Cond.code mX12_cell.1 mX12_cell.2.1 mX12_cell.2.2.1 mX12_cell.2.2.2 ∈ TBg ∧ Cond.initialized mX12_cell.1.cls ∈ TBg ∧ (mX12_cell.1.cls ≠ "java/lang/invoke/MethodHandle" ∧ mX12_cell.1.cls ≠ "java/lang/invoke/VarHandle" ∧ (parseMethodDescriptor mX12_cell.1.desc).map (fun d => d.parameters.length) = some 3) := ⟨tb_g 1525 rfl rfl, tb_g 124 (by decide +kernel) rfl, by decide +kernel⟩
theorem c_L_167 : CkM RL 167 mX12_cell 3 := ⟨q_X12_cell.1, q_X12_cell.2.1, q_X12_cell.2.2, Or.inl (tb_g 1522 (by decide +kernel) rfl)⟩
theorem k_X12_none : Cond.instanceMethod mX12_none.1 ∈ TBg ∧ Cond.selects mX12_none.1.cls mX12_none.1 mX12_none.1 ∈ TBg := ⟨tb_g 1527 (by decide +kernel) rfl, tb_g 1528 (by decide +kernel) rfl⟩
set_option maxRecDepth 20000 in
theorem q_X12_none : Cond.code mX12_none.1 mX12_none.2.1 mX12_none.2.2.1 mX12_none.2.2.2 ∈ TBg ∧ Cond.initialized mX12_none.1.cls ∈ TBg ∧ (mX12_none.1.cls ≠ "java/lang/invoke/MethodHandle" ∧ mX12_none.1.cls ≠ "java/lang/invoke/VarHandle" ∧ (parseMethodDescriptor mX12_none.1.desc).map (fun d => d.parameters.length) = some 2) := ⟨tb_g 1529 rfl rfl, tb_g 124 (by decide +kernel) rfl, by decide +kernel⟩
theorem c_L_171 : CkM RL 171 mX12_none 2 := ⟨q_X12_none.1, q_X12_none.2.1, q_X12_none.2.2, Or.inl (tb_g 1526 (by decide +kernel) rfl)⟩
theorem k_X12_gauges : Cond.instanceMethod mX12_gauges.1 ∈ TBg ∧ Cond.selects mX12_gauges.1.cls mX12_gauges.1 mX12_gauges.1 ∈ TBg := ⟨tb_g 1531 (by decide +kernel) rfl, tb_g 1532 (by decide +kernel) rfl⟩
set_option maxRecDepth 20000 in
theorem q_X12_gauges : Cond.code mX12_gauges.1 mX12_gauges.2.1 mX12_gauges.2.2.1 mX12_gauges.2.2.2 ∈ TBg ∧ Cond.initialized mX12_gauges.1.cls ∈ TBg ∧ (mX12_gauges.1.cls ≠ "java/lang/invoke/MethodHandle" ∧ mX12_gauges.1.cls ≠ "java/lang/invoke/VarHandle" ∧ (parseMethodDescriptor mX12_gauges.1.desc).map (fun d => d.parameters.length) = some 4) := ⟨tb_g 1533 rfl rfl, tb_g 124 (by decide +kernel) rfl, by decide +kernel⟩
theorem c_L_175 : CkM RL 175 mX12_gauges 4 := ⟨q_X12_gauges.1, q_X12_gauges.2.1, q_X12_gauges.2.2, Or.inl (tb_g 1530 (by decide +kernel) rfl)⟩
theorem k_X12_forge : Cond.instanceMethod mX12_forge.1 ∈ TBg ∧ Cond.selects mX12_forge.1.cls mX12_forge.1 mX12_forge.1 ∈ TBg := ⟨tb_g 1535 (by decide +kernel) rfl, tb_g 1536 (by decide +kernel) rfl⟩
set_option maxRecDepth 20000 in
theorem q_X12_forge : Cond.code mX12_forge.1 mX12_forge.2.1 mX12_forge.2.2.1 mX12_forge.2.2.2 ∈ TBg ∧ Cond.initialized mX12_forge.1.cls ∈ TBg ∧ (mX12_forge.1.cls ≠ "java/lang/invoke/MethodHandle" ∧ mX12_forge.1.cls ≠ "java/lang/invoke/VarHandle" ∧ (parseMethodDescriptor mX12_forge.1.desc).map (fun d => d.parameters.length) = some 3) := ⟨tb_g 1537 rfl rfl, tb_g 124 (by decide +kernel) rfl, by decide +kernel⟩
theorem c_L_179 : CkM RL 179 mX12_forge 3 := ⟨q_X12_forge.1, q_X12_forge.2.1, q_X12_forge.2.2, Or.inl (tb_g 1534 (by decide +kernel) rfl)⟩
theorem k_X12_modulo : Cond.static mX12_modulo.1 ∈ TBg := tb_g 1539 (by decide +kernel) rfl
set_option maxRecDepth 20000 in
theorem q_X12_modulo : Cond.code mX12_modulo.1 mX12_modulo.2.1 mX12_modulo.2.2.1 mX12_modulo.2.2.2 ∈ TBg ∧ Cond.initialized mX12_modulo.1.cls ∈ TBg ∧ (mX12_modulo.1.cls ≠ "java/lang/invoke/MethodHandle" ∧ mX12_modulo.1.cls ≠ "java/lang/invoke/VarHandle" ∧ (parseMethodDescriptor mX12_modulo.1.desc).map (fun d => d.parameters.length) = some 2) := ⟨tb_g 1540 rfl rfl, tb_g 124 (by decide +kernel) rfl, by decide +kernel⟩
theorem c_X12_351 : CkM RX12 351 mX12_modulo 2 := ⟨q_X12_modulo.1, q_X12_modulo.2.1, q_X12_modulo.2.2, Or.inl (tb_g 1538 (by decide +kernel) rfl)⟩
theorem k_X12_shorts : Cond.instanceMethod mX12_shorts.1 ∈ TBg ∧ Cond.selects mX12_shorts.1.cls mX12_shorts.1 mX12_shorts.1 ∈ TBg := ⟨tb_g 1543 (by decide +kernel) rfl, tb_g 108 (by decide +kernel) rfl⟩
set_option maxRecDepth 20000 in
theorem q_X12_shorts : Cond.code mX12_shorts.1 mX12_shorts.2.1 mX12_shorts.2.2.1 mX12_shorts.2.2.2 ∈ TBg ∧ Cond.initialized mX12_shorts.1.cls ∈ TBg ∧ (mX12_shorts.1.cls ≠ "java/lang/invoke/MethodHandle" ∧ mX12_shorts.1.cls ≠ "java/lang/invoke/VarHandle" ∧ (parseMethodDescriptor mX12_shorts.1.desc).map (fun d => d.parameters.length) = some 2) := ⟨tb_g 1544 rfl rfl, tb_g 124 (by decide +kernel) rfl, by decide +kernel⟩
theorem c_X12_354 : CkM RX12 354 mX12_shorts 2 := ⟨q_X12_shorts.1, q_X12_shorts.2.1, q_X12_shorts.2.2, Or.inl (tb_g 1541 (by decide +kernel) rfl)⟩
theorem k_X12_copied : Cond.instanceMethod mX12_copied.1 ∈ TBg ∧ Cond.selects mX12_copied.1.cls mX12_copied.1 mX12_copied.1 ∈ TBg := ⟨tb_g 1547 (by decide +kernel) rfl, tb_g 109 (by decide +kernel) rfl⟩
set_option maxRecDepth 20000 in
theorem q_X12_copied : Cond.code mX12_copied.1 mX12_copied.2.1 mX12_copied.2.2.1 mX12_copied.2.2.2 ∈ TBg ∧ Cond.initialized mX12_copied.1.cls ∈ TBg ∧ (mX12_copied.1.cls ≠ "java/lang/invoke/MethodHandle" ∧ mX12_copied.1.cls ≠ "java/lang/invoke/VarHandle" ∧ (parseMethodDescriptor mX12_copied.1.desc).map (fun d => d.parameters.length) = some 2) := ⟨tb_g 1548 rfl rfl, tb_g 124 (by decide +kernel) rfl, by decide +kernel⟩
theorem c_X12_357 : CkM RX12 357 mX12_copied 2 := ⟨q_X12_copied.1, q_X12_copied.2.1, q_X12_copied.2.2, Or.inl (tb_g 1545 (by decide +kernel) rfl)⟩
theorem k_X12_status : Cond.instanceMethod mX12_status.1 ∈ TBg ∧ Cond.selects mX12_status.1.cls mX12_status.1 mX12_status.1 ∈ TBg := ⟨tb_g 1550 (by decide +kernel) rfl, tb_g 1551 (by decide +kernel) rfl⟩
set_option maxRecDepth 20000 in
theorem q_X12_status : Cond.code mX12_status.1 mX12_status.2.1 mX12_status.2.2.1 mX12_status.2.2.2 ∈ TBg ∧ Cond.initialized mX12_status.1.cls ∈ TBg ∧ (mX12_status.1.cls ≠ "java/lang/invoke/MethodHandle" ∧ mX12_status.1.cls ≠ "java/lang/invoke/VarHandle" ∧ (parseMethodDescriptor mX12_status.1.desc).map (fun d => d.parameters.length) = some 0) := ⟨tb_g 1552 rfl rfl, tb_g 124 (by decide +kernel) rfl, by decide +kernel⟩
theorem c_L_183 : CkM RL 183 mX12_status 0 := ⟨q_X12_status.1, q_X12_status.2.1, q_X12_status.2.2, Or.inl (tb_g 1549 (by decide +kernel) rfl)⟩
theorem g_L_7 : Cond.classLink RL 7 RX11 ∈ TBg := tb_g 128 (by decide +kernel) rfl
theorem n_X11 : Cond.instantiable RX11 8 ∈ TBg ∧ Cond.initialized RX11 ∈ TBg := ⟨tb_g 129 (by decide +kernel) rfl, tb_g 111 (by decide +kernel) rfl⟩
theorem g_X11_7 : Cond.classLink RX11 7 RX4 ∈ TBg := tb_g 136 (by decide +kernel) rfl
theorem n_X4 : Cond.instantiable RX4 16 ∈ TBg ∧ Cond.initialized RX4 ∈ TBg := ⟨tb_g 137 (by decide +kernel) rfl, tb_g 112 (by decide +kernel) rfl⟩
theorem g_X4_44 : Cond.classLink RX4 44 RX7 ∈ TBg := tb_g 142 (by decide +kernel) rfl
theorem g_X4_50 : Cond.classLink RX4 50 RX3 ∈ TBg := tb_g 144 (by decide +kernel) rfl
theorem g_X4_56 : Cond.classLink RX4 56 RX2 ∈ TBg := tb_g 146 (by decide +kernel) rfl
theorem g_X4_62 : Cond.classLink RX4 62 RX1 ∈ TBg := tb_g 148 (by decide +kernel) rfl
theorem g_X4_68 : Cond.classLink RX4 68 RX8 ∈ TBg := tb_g 150 (by decide +kernel) rfl
theorem g_X4_74 : Cond.classLink RX4 74 RX5 ∈ TBg := tb_g 152 (by decide +kernel) rfl
theorem n_X7 : Cond.instantiable RX7 6 ∈ TBg ∧ Cond.initialized RX7 ∈ TBg := ⟨tb_g 157 (by decide +kernel) rfl, tb_g 114 (by decide +kernel) rfl⟩
theorem a_I : Cond.arrayClass FieldType.int ∈ TBg := tb_g 194 (by decide +kernel) rfl
theorem a_Z : Cond.arrayClass FieldType.boolean ∈ TBg := tb_g 195 (by decide +kernel) rfl
theorem n_X3 : Cond.instantiable RX3 2 ∈ TBg ∧ Cond.initialized RX3 ∈ TBg := ⟨tb_g 196 (by decide +kernel) rfl, tb_g 115 (by decide +kernel) rfl⟩
theorem g_X3_13 : Cond.classLink RX3 13 RX10 ∈ TBg := tb_g 201 (by decide +kernel) rfl
theorem n_X10 : Cond.instantiable RX10 2 ∈ TBg ∧ Cond.initialized RX10 ∈ TBg := ⟨tb_g 202 (by decide +kernel) rfl, tb_g 116 (by decide +kernel) rfl⟩
theorem n_X2 : Cond.instantiable RX2 10 ∈ TBg ∧ Cond.initialized RX2 ∈ TBg := ⟨tb_g 227 (by decide +kernel) rfl, tb_g 117 (by decide +kernel) rfl⟩
theorem g_X2_39 : Cond.classLink RX2 39 RX10 ∈ TBg := tb_g 232 (by decide +kernel) rfl
theorem n_X1 : Cond.instantiable RX1 5 ∈ TBg ∧ Cond.initialized RX1 ∈ TBg := ⟨tb_g 280 (by decide +kernel) rfl, tb_g 118 (by decide +kernel) rfl⟩
theorem n_X8 : Cond.instantiable RX8 3 ∈ TBg ∧ Cond.initialized RX8 ∈ TBg := ⟨tb_g 308 (by decide +kernel) rfl, tb_g 119 (by decide +kernel) rfl⟩
theorem n_X5 : Cond.instantiable RX5 4 ∈ TBg ∧ Cond.initialized RX5 ∈ TBg := ⟨tb_g 324 (by decide +kernel) rfl, tb_g 120 (by decide +kernel) rfl⟩
theorem g_X11_26 : Cond.classLink RX11 26 RX6 ∈ TBg := tb_g 409 (by decide +kernel) rfl
theorem g_X11_32 : Cond.classLink RX11 32 RX0 ∈ TBg := tb_g 411 (by decide +kernel) rfl
theorem n_X0 : Cond.instantiable RX0 2 ∈ TBg ∧ Cond.initialized RX0 ∈ TBg := ⟨tb_g 412 (by decide +kernel) rfl, tb_g 121 (by decide +kernel) rfl⟩
theorem g_X11_39 : Cond.classLink RX11 39 RX9 ∈ TBg := tb_g 426 (by decide +kernel) rfl
theorem n_X9 : Cond.instantiable RX9 5 ∈ TBg ∧ Cond.initialized RX9 ∈ TBg := ⟨tb_g 427 (by decide +kernel) rfl, tb_g 122 (by decide +kernel) rfl⟩
theorem n_X6 : Cond.instantiable RX6 3 ∈ TBg ∧ Cond.initialized RX6 ∈ TBg := ⟨tb_g 448 (by decide +kernel) rfl, tb_g 123 (by decide +kernel) rfl⟩
theorem l_X9_52 : Cond.constant RX9 52 (1000000 : Int32) ∈ TBg := tb_g 837 (by decide +kernel) rfl
theorem l_J_265 : Cond.constant "java/lang/Integer" 265 (1431655765 : Int32) ∈ TBg := tb_g 873 (by decide +kernel) rfl
theorem l_J_266 : Cond.constant "java/lang/Integer" 266 (858993459 : Int32) ∈ TBg := tb_g 874 (by decide +kernel) rfl
theorem l_J_267 : Cond.constant "java/lang/Integer" 267 (252645135 : Int32) ∈ TBg := tb_g 875 (by decide +kernel) rfl
theorem g_L_10 : Cond.classLink RL 10 RX12 ∈ TBg := tb_g 1011 (by decide +kernel) rfl
theorem n_X12 : Cond.instantiable RX12 64 ∈ TBg ∧ Cond.initialized RX12 ∈ TBg := ⟨tb_g 1012 (by decide +kernel) rfl, tb_g 124 (by decide +kernel) rfl⟩
theorem l_X12_273 : Cond.constant RX12 273 (1000000000 : Int32) ∈ TBg := tb_g 1418 (by decide +kernel) rfl
theorem z_X0 : ∀ ty : Nat → FieldType, (∀ k, k < 2 → parseFieldDescriptor (TX0 k).2.2.1 = some (ty k)) → ∀ j, j < 2 → defaultValue (ty j) = if isR 0 j = true then .null else .int 0 := by
  intro ty h j hj
  have h2 := tyX0_ok j hj
  have h3 : ty j = tyX0 j := Option.some.inj ((h j hj).symm.trans h2)
  rw [h3]
  exact (by decide +kernel : ∀ j, j < 2 → defaultValue (tyX0 j) = if isR 0 j = true then .null else .int 0) j hj
theorem z_X1 : ∀ ty : Nat → FieldType, (∀ k, k < 5 → parseFieldDescriptor (TX1 k).2.2.1 = some (ty k)) → ∀ j, j < 5 → defaultValue (ty j) = if isR 1 j = true then .null else .int 0 := by
  intro ty h j hj
  have h2 := tyX1_ok j hj
  have h3 : ty j = tyX1 j := Option.some.inj ((h j hj).symm.trans h2)
  rw [h3]
  exact (by decide +kernel : ∀ j, j < 5 → defaultValue (tyX1 j) = if isR 1 j = true then .null else .int 0) j hj
theorem z_X2 : ∀ ty : Nat → FieldType, (∀ k, k < 10 → parseFieldDescriptor (TX2 k).2.2.1 = some (ty k)) → ∀ j, j < 10 → defaultValue (ty j) = if isR 2 j = true then .null else .int 0 := by
  intro ty h j hj
  have h2 := tyX2_ok j hj
  have h3 : ty j = tyX2 j := Option.some.inj ((h j hj).symm.trans h2)
  rw [h3]
  exact (by decide +kernel : ∀ j, j < 10 → defaultValue (tyX2 j) = if isR 2 j = true then .null else .int 0) j hj
theorem z_X3 : ∀ ty : Nat → FieldType, (∀ k, k < 2 → parseFieldDescriptor (TX3 k).2.2.1 = some (ty k)) → ∀ j, j < 2 → defaultValue (ty j) = if isR 3 j = true then .null else .int 0 := by
  intro ty h j hj
  have h2 := tyX3_ok j hj
  have h3 : ty j = tyX3 j := Option.some.inj ((h j hj).symm.trans h2)
  rw [h3]
  exact (by decide +kernel : ∀ j, j < 2 → defaultValue (tyX3 j) = if isR 3 j = true then .null else .int 0) j hj
theorem z_X4 : ∀ ty : Nat → FieldType, (∀ k, k < 16 → parseFieldDescriptor (TX4 k).2.2.1 = some (ty k)) → ∀ j, j < 16 → defaultValue (ty j) = if isR 4 j = true then .null else .int 0 := by
  intro ty h j hj
  have h2 := tyX4_ok j hj
  have h3 : ty j = tyX4 j := Option.some.inj ((h j hj).symm.trans h2)
  rw [h3]
  exact (by decide +kernel : ∀ j, j < 16 → defaultValue (tyX4 j) = if isR 4 j = true then .null else .int 0) j hj
theorem z_X5 : ∀ ty : Nat → FieldType, (∀ k, k < 4 → parseFieldDescriptor (TX5 k).2.2.1 = some (ty k)) → ∀ j, j < 4 → defaultValue (ty j) = if isR 5 j = true then .null else .int 0 := by
  intro ty h j hj
  have h2 := tyX5_ok j hj
  have h3 : ty j = tyX5 j := Option.some.inj ((h j hj).symm.trans h2)
  rw [h3]
  exact (by decide +kernel : ∀ j, j < 4 → defaultValue (tyX5 j) = if isR 5 j = true then .null else .int 0) j hj
theorem z_X6 : ∀ ty : Nat → FieldType, (∀ k, k < 3 → parseFieldDescriptor (TX6 k).2.2.1 = some (ty k)) → ∀ j, j < 3 → defaultValue (ty j) = if isR 6 j = true then .null else .int 0 := by
  intro ty h j hj
  have h2 := tyX6_ok j hj
  have h3 : ty j = tyX6 j := Option.some.inj ((h j hj).symm.trans h2)
  rw [h3]
  exact (by decide +kernel : ∀ j, j < 3 → defaultValue (tyX6 j) = if isR 6 j = true then .null else .int 0) j hj
theorem z_X7 : ∀ ty : Nat → FieldType, (∀ k, k < 6 → parseFieldDescriptor (TX7 k).2.2.1 = some (ty k)) → ∀ j, j < 6 → defaultValue (ty j) = if isR 7 j = true then .null else .int 0 := by
  intro ty h j hj
  have h2 := tyX7_ok j hj
  have h3 : ty j = tyX7 j := Option.some.inj ((h j hj).symm.trans h2)
  rw [h3]
  exact (by decide +kernel : ∀ j, j < 6 → defaultValue (tyX7 j) = if isR 7 j = true then .null else .int 0) j hj
theorem z_X8 : ∀ ty : Nat → FieldType, (∀ k, k < 3 → parseFieldDescriptor (TX8 k).2.2.1 = some (ty k)) → ∀ j, j < 3 → defaultValue (ty j) = if isR 8 j = true then .null else .int 0 := by
  intro ty h j hj
  have h2 := tyX8_ok j hj
  have h3 : ty j = tyX8 j := Option.some.inj ((h j hj).symm.trans h2)
  rw [h3]
  exact (by decide +kernel : ∀ j, j < 3 → defaultValue (tyX8 j) = if isR 8 j = true then .null else .int 0) j hj
theorem z_X9 : ∀ ty : Nat → FieldType, (∀ k, k < 5 → parseFieldDescriptor (TX9 k).2.2.1 = some (ty k)) → ∀ j, j < 5 → defaultValue (ty j) = if isR 9 j = true then .null else .int 0 := by
  intro ty h j hj
  have h2 := tyX9_ok j hj
  have h3 : ty j = tyX9 j := Option.some.inj ((h j hj).symm.trans h2)
  rw [h3]
  exact (by decide +kernel : ∀ j, j < 5 → defaultValue (tyX9 j) = if isR 9 j = true then .null else .int 0) j hj
theorem z_X10 : ∀ ty : Nat → FieldType, (∀ k, k < 2 → parseFieldDescriptor (TX10 k).2.2.1 = some (ty k)) → ∀ j, j < 2 → defaultValue (ty j) = if isR 10 j = true then .null else .int 0 := by
  intro ty h j hj
  have h2 := tyX10_ok j hj
  have h3 : ty j = tyX10 j := Option.some.inj ((h j hj).symm.trans h2)
  rw [h3]
  exact (by decide +kernel : ∀ j, j < 2 → defaultValue (tyX10 j) = if isR 10 j = true then .null else .int 0) j hj
theorem z_X11 : ∀ ty : Nat → FieldType, (∀ k, k < 8 → parseFieldDescriptor (TX11 k).2.2.1 = some (ty k)) → ∀ j, j < 8 → defaultValue (ty j) = if isR 11 j = true then .null else .int 0 := by
  intro ty h j hj
  have h2 := tyX11_ok j hj
  have h3 : ty j = tyX11 j := Option.some.inj ((h j hj).symm.trans h2)
  rw [h3]
  exact (by decide +kernel : ∀ j, j < 8 → defaultValue (tyX11 j) = if isR 11 j = true then .null else .int 0) j hj
theorem z_X12 : ∀ ty : Nat → FieldType, (∀ k, k < 64 → parseFieldDescriptor (TX12 k).2.2.1 = some (ty k)) → ∀ j, j < 64 → defaultValue (ty j) = if isR 12 j = true then .null else .int 0 := by
  intro ty h j hj
  have h2 := tyX12_ok j hj
  have h3 : ty j = tyX12 j := Option.some.inj ((h j hj).symm.trans h2)
  rw [h3]
  exact (by decide +kernel : ∀ j, j < 64 → defaultValue (tyX12 j) = if isR 12 j = true then .null else .int 0) j hj
end
section
theorem d_X0_init_0 : decode cX0_init 0 = .ok (.aload_n 0, 1) := by decide +kernel
theorem d_X0_init_1 : decode cX0_init 1 = .ok (.invokespecial 3, 3) := by decide +kernel
theorem d_X0_init_4 : decode cX0_init 4 = .ok (.aload_n 0, 1) := by decide +kernel
theorem d_X0_init_5 : decode cX0_init 5 = .ok (.iconst 0, 1) := by decide +kernel
theorem d_X0_init_6 : decode cX0_init 6 = .ok (.putfield 9, 3) := by decide +kernel
theorem d_X0_init_9 : decode cX0_init 9 = .ok (.aload_n 0, 1) := by decide +kernel
theorem d_X0_init_10 : decode cX0_init 10 = .ok (.bipush 50, 2) := by decide +kernel
theorem d_X0_init_12 : decode cX0_init 12 = .ok (.newarray .int, 2) := by decide +kernel
theorem d_X0_init_14 : decode cX0_init 14 = .ok (.putfield 15, 3) := by decide +kernel
theorem d_X0_init_17 : decode cX0_init 17 = .ok (.return_, 1) := by decide +kernel
theorem d_X0_begin_0 : decode cX0_begin 0 = .ok (.aload_n 0, 1) := by decide +kernel
theorem d_X0_begin_1 : decode cX0_begin 1 = .ok (.iconst 0, 1) := by decide +kernel
theorem d_X0_begin_2 : decode cX0_begin 2 = .ok (.putfield 9, 3) := by decide +kernel
theorem d_X0_begin_5 : decode cX0_begin 5 = .ok (.aload_n 0, 1) := by decide +kernel
theorem d_X0_begin_6 : decode cX0_begin 6 = .ok (.aload_n 1, 1) := by decide +kernel
theorem d_X0_begin_7 : decode cX0_begin 7 = .ok (.aload_n 1, 1) := by decide +kernel
theorem d_X0_begin_8 : decode cX0_begin 8 = .ok (.getfield 19, 3) := by decide +kernel
theorem d_X0_begin_11 : decode cX0_begin 11 = .ok (.iload_n 2, 1) := by decide +kernel
theorem d_X0_begin_12 : decode cX0_begin 12 = .ok (.iload_n 3, 1) := by decide +kernel
theorem d_X0_begin_13 : decode cX0_begin 13 = .ok (.iconst 0, 1) := by decide +kernel
theorem d_X0_begin_14 : decode cX0_begin 14 = .ok (.invokevirtual 24, 3) := by decide +kernel
theorem d_X0_begin_17 : decode cX0_begin 17 = .ok (.ireturn, 1) := by decide +kernel
theorem d_X0_kindWithBody_0 : decode cX0_kindWithBody 0 = .ok (.iload_n 0, 1) := by decide +kernel
theorem d_X0_kindWithBody_1 : decode cX0_kindWithBody 1 = .ok (.istore_n 2, 1) := by decide +kernel
theorem d_X0_kindWithBody_2 : decode cX0_kindWithBody 2 = .ok (.iconst 0, 1) := by decide +kernel
theorem d_X0_kindWithBody_3 : decode cX0_kindWithBody 3 = .ok (.istore_n 3, 1) := by decide +kernel
theorem d_X0_kindWithBody_4 : decode cX0_kindWithBody 4 = .ok (.iload_n 3, 1) := by decide +kernel
theorem d_X0_kindWithBody_5 : decode cX0_kindWithBody 5 = .ok (.bipush 6, 2) := by decide +kernel
theorem d_X0_kindWithBody_7 : decode cX0_kindWithBody 7 = .ok (.if_icmp .ge 32, 3) := by decide +kernel
theorem d_X0_kindWithBody_10 : decode cX0_kindWithBody 10 = .ok (.iload_n 2, 1) := by decide +kernel
theorem d_X0_kindWithBody_11 : decode cX0_kindWithBody 11 = .ok (.iconst (-1), 1) := by decide +kernel
theorem d_X0_kindWithBody_12 : decode cX0_kindWithBody 12 = .ok (.if_icmp .eq 27, 3) := by decide +kernel
theorem d_X0_kindWithBody_15 : decode cX0_kindWithBody 15 = .ok (.getstatic 28, 3) := by decide +kernel
theorem d_X0_kindWithBody_18 : decode cX0_kindWithBody 18 = .ok (.iload_n 2, 1) := by decide +kernel
theorem d_X0_kindWithBody_19 : decode cX0_kindWithBody 19 = .ok (.iconst 4, 1) := by decide +kernel
theorem d_X0_kindWithBody_20 : decode cX0_kindWithBody 20 = .ok (.imul, 1) := by decide +kernel
theorem d_X0_kindWithBody_21 : decode cX0_kindWithBody 21 = .ok (.iload_n 1, 1) := by decide +kernel
theorem d_X0_kindWithBody_22 : decode cX0_kindWithBody 22 = .ok (.iadd, 1) := by decide +kernel
theorem d_X0_kindWithBody_23 : decode cX0_kindWithBody 23 = .ok (.iaload, 1) := by decide +kernel
theorem d_X0_kindWithBody_24 : decode cX0_kindWithBody 24 = .ok (.ifCond .ne 15, 3) := by decide +kernel
theorem d_X0_kindWithBody_27 : decode cX0_kindWithBody 27 = .ok (.getstatic 31, 3) := by decide +kernel
theorem d_X0_kindWithBody_30 : decode cX0_kindWithBody 30 = .ok (.iload_n 2, 1) := by decide +kernel
theorem d_X0_kindWithBody_31 : decode cX0_kindWithBody 31 = .ok (.iaload, 1) := by decide +kernel
theorem d_X0_kindWithBody_32 : decode cX0_kindWithBody 32 = .ok (.istore_n 2, 1) := by decide +kernel
theorem d_X0_kindWithBody_33 : decode cX0_kindWithBody 33 = .ok (.iinc 3 1, 3) := by decide +kernel
theorem d_X0_kindWithBody_36 : decode cX0_kindWithBody 36 = .ok (.goto (-32), 3) := by decide +kernel
theorem d_X0_kindWithBody_39 : decode cX0_kindWithBody 39 = .ok (.iload_n 2, 1) := by decide +kernel
theorem d_X0_kindWithBody_40 : decode cX0_kindWithBody 40 = .ok (.ireturn, 1) := by decide +kernel
theorem d_X0_note_0 : decode cX0_note 0 = .ok (.aload_n 0, 1) := by decide +kernel
theorem d_X0_note_1 : decode cX0_note 1 = .ok (.getfield 9, 3) := by decide +kernel
theorem d_X0_note_4 : decode cX0_note 4 = .ok (.bipush 50, 2) := by decide +kernel
theorem d_X0_note_6 : decode cX0_note 6 = .ok (.if_icmp .ge 23, 3) := by decide +kernel
theorem d_X0_note_9 : decode cX0_note 9 = .ok (.aload_n 0, 1) := by decide +kernel
theorem d_X0_note_10 : decode cX0_note 10 = .ok (.getfield 15, 3) := by decide +kernel
theorem d_X0_note_13 : decode cX0_note 13 = .ok (.aload_n 0, 1) := by decide +kernel
theorem d_X0_note_14 : decode cX0_note 14 = .ok (.getfield 9, 3) := by decide +kernel
theorem d_X0_note_17 : decode cX0_note 17 = .ok (.iload_n 1, 1) := by decide +kernel
theorem d_X0_note_18 : decode cX0_note 18 = .ok (.iastore, 1) := by decide +kernel
theorem d_X0_note_19 : decode cX0_note 19 = .ok (.aload_n 0, 1) := by decide +kernel
theorem d_X0_note_20 : decode cX0_note 20 = .ok (.dup, 1) := by decide +kernel
theorem d_X0_note_21 : decode cX0_note 21 = .ok (.getfield 9, 3) := by decide +kernel
theorem d_X0_note_24 : decode cX0_note 24 = .ok (.iconst 1, 1) := by decide +kernel
theorem d_X0_note_25 : decode cX0_note 25 = .ok (.iadd, 1) := by decide +kernel
theorem d_X0_note_26 : decode cX0_note 26 = .ok (.putfield 9, 3) := by decide +kernel
theorem d_X0_note_29 : decode cX0_note 29 = .ok (.return_, 1) := by decide +kernel
theorem d_X0_run_0 : decode cX0_run 0 = .ok (.iload_n 2, 1) := by decide +kernel
theorem d_X0_run_1 : decode cX0_run 1 = .ok (.iload_n 3, 1) := by decide +kernel
theorem d_X0_run_2 : decode cX0_run 2 = .ok (.invokestatic 34, 3) := by decide +kernel
theorem d_X0_run_5 : decode cX0_run 5 = .ok (.istore 6, 2) := by decide +kernel
theorem d_X0_run_7 : decode cX0_run 7 = .ok (.iload 6, 2) := by decide +kernel
theorem d_X0_run_9 : decode cX0_run 9 = .ok (.iconst (-1), 1) := by decide +kernel
theorem d_X0_run_10 : decode cX0_run 10 = .ok (.if_icmp .eq 10, 3) := by decide +kernel
theorem d_X0_run_13 : decode cX0_run 13 = .ok (.iload 5, 2) := by decide +kernel
theorem d_X0_run_15 : decode cX0_run 15 = .ok (.bipush 24, 2) := by decide +kernel
theorem d_X0_run_17 : decode cX0_run 17 = .ok (.if_icmp .le 5, 3) := by decide +kernel
theorem d_X0_run_20 : decode cX0_run 20 = .ok (.iconst 0, 1) := by decide +kernel
theorem d_X0_run_21 : decode cX0_run 21 = .ok (.ireturn, 1) := by decide +kernel
theorem d_X0_run_22 : decode cX0_run 22 = .ok (.getstatic 28, 3) := by decide +kernel
theorem d_X0_run_25 : decode cX0_run 25 = .ok (.iload 6, 2) := by decide +kernel
theorem d_X0_run_27 : decode cX0_run 27 = .ok (.iconst 4, 1) := by decide +kernel
theorem d_X0_run_28 : decode cX0_run 28 = .ok (.imul, 1) := by decide +kernel
theorem d_X0_run_29 : decode cX0_run 29 = .ok (.iload_n 3, 1) := by decide +kernel
theorem d_X0_run_30 : decode cX0_run 30 = .ok (.iadd, 1) := by decide +kernel
theorem d_X0_run_31 : decode cX0_run 31 = .ok (.iaload, 1) := by decide +kernel
theorem d_X0_run_32 : decode cX0_run 32 = .ok (.istore 7, 2) := by decide +kernel
theorem d_X0_run_34 : decode cX0_run 34 = .ok (.getstatic 31, 3) := by decide +kernel
theorem d_X0_run_37 : decode cX0_run 37 = .ok (.iload 6, 2) := by decide +kernel
theorem d_X0_run_39 : decode cX0_run 39 = .ok (.iaload, 1) := by decide +kernel
theorem d_X0_run_40 : decode cX0_run 40 = .ok (.istore 8, 2) := by decide +kernel
theorem d_X0_run_42 : decode cX0_run 42 = .ok (.aload_n 0, 1) := by decide +kernel
theorem d_X0_run_43 : decode cX0_run 43 = .ok (.iload 7, 2) := by decide +kernel
theorem d_X0_run_45 : decode cX0_run 45 = .ok (.invokevirtual 38, 3) := by decide +kernel
theorem d_X0_run_48 : decode cX0_run 48 = .ok (.iload 7, 2) := by decide +kernel
theorem d_X0_run_50 : decode cX0_run 50 = .ok (.lookupswitch 355 #[(10, 106), (11, 114), (12, 133), (13, 141), (20, 175), (21, 195), (30, 212), (40, 246), (41, 263), (50, 283), (51, 303), (60, 323)], 106) := by decide +kernel
theorem d_X0_run_156 : decode cX0_run 156 = .ok (.iload 4, 2) := by decide +kernel
theorem d_X0_run_158 : decode cX0_run 158 = .ok (.aload_n 1, 1) := by decide +kernel
theorem d_X0_run_159 : decode cX0_run 159 = .ok (.getfield 42, 3) := by decide +kernel
theorem d_X0_run_162 : decode cX0_run 162 = .ok (.iadd, 1) := by decide +kernel
theorem d_X0_run_163 : decode cX0_run 163 = .ok (.ireturn, 1) := by decide +kernel
theorem d_X0_run_164 : decode cX0_run 164 = .ok (.aload_n 0, 1) := by decide +kernel
theorem d_X0_run_165 : decode cX0_run 165 = .ok (.aload_n 1, 1) := by decide +kernel
theorem d_X0_run_166 : decode cX0_run 166 = .ok (.aload_n 1, 1) := by decide +kernel
theorem d_X0_run_167 : decode cX0_run 167 = .ok (.getfield 19, 3) := by decide +kernel
theorem d_X0_run_170 : decode cX0_run 170 = .ok (.iconst 0, 1) := by decide +kernel
theorem d_X0_run_171 : decode cX0_run 171 = .ok (.iload 4, 2) := by decide +kernel
theorem d_X0_run_173 : decode cX0_run 173 = .ok (.iload 5, 2) := by decide +kernel
theorem d_X0_run_175 : decode cX0_run 175 = .ok (.iconst 1, 1) := by decide +kernel
theorem d_X0_run_176 : decode cX0_run 176 = .ok (.iadd, 1) := by decide +kernel
theorem d_X0_run_177 : decode cX0_run 177 = .ok (.invokevirtual 24, 3) := by decide +kernel
theorem d_X0_run_180 : decode cX0_run 180 = .ok (.iconst 2, 1) := by decide +kernel
theorem d_X0_run_181 : decode cX0_run 181 = .ok (.imul, 1) := by decide +kernel
theorem d_X0_run_182 : decode cX0_run 182 = .ok (.ireturn, 1) := by decide +kernel
theorem d_X0_run_183 : decode cX0_run 183 = .ok (.iload 4, 2) := by decide +kernel
theorem d_X0_run_185 : decode cX0_run 185 = .ok (.aload_n 1, 1) := by decide +kernel
theorem d_X0_run_186 : decode cX0_run 186 = .ok (.getfield 45, 3) := by decide +kernel
theorem d_X0_run_189 : decode cX0_run 189 = .ok (.isub, 1) := by decide +kernel
theorem d_X0_run_190 : decode cX0_run 190 = .ok (.ireturn, 1) := by decide +kernel
theorem d_X0_run_191 : decode cX0_run 191 = .ok (.aload_n 0, 1) := by decide +kernel
theorem d_X0_run_192 : decode cX0_run 192 = .ok (.aload_n 1, 1) := by decide +kernel
theorem d_X0_run_193 : decode cX0_run 193 = .ok (.aload_n 1, 1) := by decide +kernel
theorem d_X0_run_194 : decode cX0_run 194 = .ok (.getfield 19, 3) := by decide +kernel
theorem d_X0_run_197 : decode cX0_run 197 = .ok (.iconst 1, 1) := by decide +kernel
theorem d_X0_run_198 : decode cX0_run 198 = .ok (.iload 4, 2) := by decide +kernel
theorem d_X0_run_200 : decode cX0_run 200 = .ok (.iload 5, 2) := by decide +kernel
theorem d_X0_run_202 : decode cX0_run 202 = .ok (.iconst 1, 1) := by decide +kernel
theorem d_X0_run_203 : decode cX0_run 203 = .ok (.iadd, 1) := by decide +kernel
theorem d_X0_run_204 : decode cX0_run 204 = .ok (.invokevirtual 24, 3) := by decide +kernel
theorem d_X0_run_207 : decode cX0_run 207 = .ok (.aload_n 0, 1) := by decide +kernel
theorem d_X0_run_208 : decode cX0_run 208 = .ok (.aload_n 1, 1) := by decide +kernel
theorem d_X0_run_209 : decode cX0_run 209 = .ok (.aload_n 1, 1) := by decide +kernel
theorem d_X0_run_210 : decode cX0_run 210 = .ok (.getfield 19, 3) := by decide +kernel
theorem d_X0_run_213 : decode cX0_run 213 = .ok (.iconst 2, 1) := by decide +kernel
theorem d_X0_run_214 : decode cX0_run 214 = .ok (.iload 4, 2) := by decide +kernel
theorem d_X0_run_216 : decode cX0_run 216 = .ok (.iload 5, 2) := by decide +kernel
theorem d_X0_run_218 : decode cX0_run 218 = .ok (.iconst 1, 1) := by decide +kernel
theorem d_X0_run_219 : decode cX0_run 219 = .ok (.iadd, 1) := by decide +kernel
theorem d_X0_run_220 : decode cX0_run 220 = .ok (.invokevirtual 24, 3) := by decide +kernel
theorem d_X0_run_223 : decode cX0_run 223 = .ok (.ixor, 1) := by decide +kernel
theorem d_X0_run_224 : decode cX0_run 224 = .ok (.ireturn, 1) := by decide +kernel
theorem d_X0_run_225 : decode cX0_run 225 = .ok (.aload_n 0, 1) := by decide +kernel
theorem d_X0_run_226 : decode cX0_run 226 = .ok (.aload_n 1, 1) := by decide +kernel
theorem d_X0_run_227 : decode cX0_run 227 = .ok (.iload 8, 2) := by decide +kernel
theorem d_X0_run_229 : decode cX0_run 229 = .ok (.iconst 0, 1) := by decide +kernel
theorem d_X0_run_230 : decode cX0_run 230 = .ok (.iload 4, 2) := by decide +kernel
theorem d_X0_run_232 : decode cX0_run 232 = .ok (.iload 5, 2) := by decide +kernel
theorem d_X0_run_234 : decode cX0_run 234 = .ok (.iconst 1, 1) := by decide +kernel
theorem d_X0_run_235 : decode cX0_run 235 = .ok (.iadd, 1) := by decide +kernel
theorem d_X0_run_236 : decode cX0_run 236 = .ok (.invokevirtual 24, 3) := by decide +kernel
theorem d_X0_run_239 : decode cX0_run 239 = .ok (.aload_n 1, 1) := by decide +kernel
theorem d_X0_run_240 : decode cX0_run 240 = .ok (.getfield 48, 3) := by decide +kernel
theorem d_X0_run_243 : decode cX0_run 243 = .ok (.isub, 1) := by decide +kernel
theorem d_X0_run_244 : decode cX0_run 244 = .ok (.ireturn, 1) := by decide +kernel
theorem d_X0_run_245 : decode cX0_run 245 = .ok (.aload_n 0, 1) := by decide +kernel
theorem d_X0_run_246 : decode cX0_run 246 = .ok (.aload_n 1, 1) := by decide +kernel
theorem d_X0_run_247 : decode cX0_run 247 = .ok (.iload 8, 2) := by decide +kernel
theorem d_X0_run_249 : decode cX0_run 249 = .ok (.iconst 3, 1) := by decide +kernel
theorem d_X0_run_250 : decode cX0_run 250 = .ok (.iload 4, 2) := by decide +kernel
theorem d_X0_run_252 : decode cX0_run 252 = .ok (.iconst 1, 1) := by decide +kernel
theorem d_X0_run_253 : decode cX0_run 253 = .ok (.iadd, 1) := by decide +kernel
theorem d_X0_run_254 : decode cX0_run 254 = .ok (.iload 5, 2) := by decide +kernel
theorem d_X0_run_256 : decode cX0_run 256 = .ok (.iconst 1, 1) := by decide +kernel
theorem d_X0_run_257 : decode cX0_run 257 = .ok (.iadd, 1) := by decide +kernel
theorem d_X0_run_258 : decode cX0_run 258 = .ok (.invokevirtual 24, 3) := by decide +kernel
theorem d_X0_run_261 : decode cX0_run 261 = .ok (.ireturn, 1) := by decide +kernel
theorem d_X0_run_262 : decode cX0_run 262 = .ok (.aload_n 0, 1) := by decide +kernel
theorem d_X0_run_263 : decode cX0_run 263 = .ok (.aload_n 1, 1) := by decide +kernel
theorem d_X0_run_264 : decode cX0_run 264 = .ok (.iload 8, 2) := by decide +kernel
theorem d_X0_run_266 : decode cX0_run 266 = .ok (.iconst 1, 1) := by decide +kernel
theorem d_X0_run_267 : decode cX0_run 267 = .ok (.iload 4, 2) := by decide +kernel
theorem d_X0_run_269 : decode cX0_run 269 = .ok (.iload 5, 2) := by decide +kernel
theorem d_X0_run_271 : decode cX0_run 271 = .ok (.iconst 1, 1) := by decide +kernel
theorem d_X0_run_272 : decode cX0_run 272 = .ok (.iadd, 1) := by decide +kernel
theorem d_X0_run_273 : decode cX0_run 273 = .ok (.invokevirtual 24, 3) := by decide +kernel
theorem d_X0_run_276 : decode cX0_run 276 = .ok (.aload_n 0, 1) := by decide +kernel
theorem d_X0_run_277 : decode cX0_run 277 = .ok (.aload_n 1, 1) := by decide +kernel
theorem d_X0_run_278 : decode cX0_run 278 = .ok (.aload_n 1, 1) := by decide +kernel
theorem d_X0_run_279 : decode cX0_run 279 = .ok (.getfield 19, 3) := by decide +kernel
theorem d_X0_run_282 : decode cX0_run 282 = .ok (.iconst 2, 1) := by decide +kernel
theorem d_X0_run_283 : decode cX0_run 283 = .ok (.aload_n 1, 1) := by decide +kernel
theorem d_X0_run_284 : decode cX0_run 284 = .ok (.getfield 48, 3) := by decide +kernel
theorem d_X0_run_287 : decode cX0_run 287 = .ok (.iload 5, 2) := by decide +kernel
theorem d_X0_run_289 : decode cX0_run 289 = .ok (.iconst 1, 1) := by decide +kernel
theorem d_X0_run_290 : decode cX0_run 290 = .ok (.iadd, 1) := by decide +kernel
theorem d_X0_run_291 : decode cX0_run 291 = .ok (.invokevirtual 24, 3) := by decide +kernel
theorem d_X0_run_294 : decode cX0_run 294 = .ok (.iadd, 1) := by decide +kernel
theorem d_X0_run_295 : decode cX0_run 295 = .ok (.ireturn, 1) := by decide +kernel
theorem d_X0_run_296 : decode cX0_run 296 = .ok (.aload_n 0, 1) := by decide +kernel
theorem d_X0_run_297 : decode cX0_run 297 = .ok (.aload_n 1, 1) := by decide +kernel
theorem d_X0_run_298 : decode cX0_run 298 = .ok (.iload 8, 2) := by decide +kernel
theorem d_X0_run_300 : decode cX0_run 300 = .ok (.iconst 2, 1) := by decide +kernel
theorem d_X0_run_301 : decode cX0_run 301 = .ok (.iload 4, 2) := by decide +kernel
theorem d_X0_run_303 : decode cX0_run 303 = .ok (.iload 5, 2) := by decide +kernel
theorem d_X0_run_305 : decode cX0_run 305 = .ok (.iconst 1, 1) := by decide +kernel
theorem d_X0_run_306 : decode cX0_run 306 = .ok (.iadd, 1) := by decide +kernel
theorem d_X0_run_307 : decode cX0_run 307 = .ok (.invokevirtual 24, 3) := by decide +kernel
theorem d_X0_run_310 : decode cX0_run 310 = .ok (.iconst 3, 1) := by decide +kernel
theorem d_X0_run_311 : decode cX0_run 311 = .ok (.imul, 1) := by decide +kernel
theorem d_X0_run_312 : decode cX0_run 312 = .ok (.ireturn, 1) := by decide +kernel
theorem d_X0_run_313 : decode cX0_run 313 = .ok (.aload_n 0, 1) := by decide +kernel
theorem d_X0_run_314 : decode cX0_run 314 = .ok (.aload_n 1, 1) := by decide +kernel
theorem d_X0_run_315 : decode cX0_run 315 = .ok (.iload 8, 2) := by decide +kernel
theorem d_X0_run_317 : decode cX0_run 317 = .ok (.iconst 0, 1) := by decide +kernel
theorem d_X0_run_318 : decode cX0_run 318 = .ok (.iload 4, 2) := by decide +kernel
theorem d_X0_run_320 : decode cX0_run 320 = .ok (.aload_n 1, 1) := by decide +kernel
theorem d_X0_run_321 : decode cX0_run 321 = .ok (.getfield 45, 3) := by decide +kernel
theorem d_X0_run_324 : decode cX0_run 324 = .ok (.iadd, 1) := by decide +kernel
theorem d_X0_run_325 : decode cX0_run 325 = .ok (.iload 5, 2) := by decide +kernel
theorem d_X0_run_327 : decode cX0_run 327 = .ok (.iconst 1, 1) := by decide +kernel
theorem d_X0_run_328 : decode cX0_run 328 = .ok (.iadd, 1) := by decide +kernel
theorem d_X0_run_329 : decode cX0_run 329 = .ok (.invokevirtual 24, 3) := by decide +kernel
theorem d_X0_run_332 : decode cX0_run 332 = .ok (.ireturn, 1) := by decide +kernel
theorem d_X0_run_333 : decode cX0_run 333 = .ok (.aload_n 0, 1) := by decide +kernel
theorem d_X0_run_334 : decode cX0_run 334 = .ok (.aload_n 1, 1) := by decide +kernel
theorem d_X0_run_335 : decode cX0_run 335 = .ok (.iload 8, 2) := by decide +kernel
theorem d_X0_run_337 : decode cX0_run 337 = .ok (.iconst 1, 1) := by decide +kernel
theorem d_X0_run_338 : decode cX0_run 338 = .ok (.iload 4, 2) := by decide +kernel
theorem d_X0_run_340 : decode cX0_run 340 = .ok (.iload 5, 2) := by decide +kernel
theorem d_X0_run_342 : decode cX0_run 342 = .ok (.iconst 1, 1) := by decide +kernel
theorem d_X0_run_343 : decode cX0_run 343 = .ok (.iadd, 1) := by decide +kernel
theorem d_X0_run_344 : decode cX0_run 344 = .ok (.invokevirtual 24, 3) := by decide +kernel
theorem d_X0_run_347 : decode cX0_run 347 = .ok (.aload_n 1, 1) := by decide +kernel
theorem d_X0_run_348 : decode cX0_run 348 = .ok (.getfield 42, 3) := by decide +kernel
theorem d_X0_run_351 : decode cX0_run 351 = .ok (.ixor, 1) := by decide +kernel
theorem d_X0_run_352 : decode cX0_run 352 = .ok (.ireturn, 1) := by decide +kernel
theorem d_X0_run_353 : decode cX0_run 353 = .ok (.aload_n 0, 1) := by decide +kernel
theorem d_X0_run_354 : decode cX0_run 354 = .ok (.aload_n 1, 1) := by decide +kernel
theorem d_X0_run_355 : decode cX0_run 355 = .ok (.iload 8, 2) := by decide +kernel
theorem d_X0_run_357 : decode cX0_run 357 = .ok (.iconst 2, 1) := by decide +kernel
theorem d_X0_run_358 : decode cX0_run 358 = .ok (.iload 4, 2) := by decide +kernel
theorem d_X0_run_360 : decode cX0_run 360 = .ok (.aload_n 1, 1) := by decide +kernel
theorem d_X0_run_361 : decode cX0_run 361 = .ok (.getfield 48, 3) := by decide +kernel
theorem d_X0_run_364 : decode cX0_run 364 = .ok (.iadd, 1) := by decide +kernel
theorem d_X0_run_365 : decode cX0_run 365 = .ok (.iload 5, 2) := by decide +kernel
theorem d_X0_run_367 : decode cX0_run 367 = .ok (.iconst 1, 1) := by decide +kernel
theorem d_X0_run_368 : decode cX0_run 368 = .ok (.iadd, 1) := by decide +kernel
theorem d_X0_run_369 : decode cX0_run 369 = .ok (.invokevirtual 24, 3) := by decide +kernel
theorem d_X0_run_372 : decode cX0_run 372 = .ok (.ireturn, 1) := by decide +kernel
theorem d_X0_run_373 : decode cX0_run 373 = .ok (.aload_n 0, 1) := by decide +kernel
theorem d_X0_run_374 : decode cX0_run 374 = .ok (.aload_n 1, 1) := by decide +kernel
theorem d_X0_run_375 : decode cX0_run 375 = .ok (.aload_n 1, 1) := by decide +kernel
theorem d_X0_run_376 : decode cX0_run 376 = .ok (.getfield 19, 3) := by decide +kernel
theorem d_X0_run_379 : decode cX0_run 379 = .ok (.iconst 2, 1) := by decide +kernel
theorem d_X0_run_380 : decode cX0_run 380 = .ok (.iload 4, 2) := by decide +kernel
theorem d_X0_run_382 : decode cX0_run 382 = .ok (.iload 5, 2) := by decide +kernel
theorem d_X0_run_384 : decode cX0_run 384 = .ok (.iconst 1, 1) := by decide +kernel
theorem d_X0_run_385 : decode cX0_run 385 = .ok (.iadd, 1) := by decide +kernel
theorem d_X0_run_386 : decode cX0_run 386 = .ok (.invokevirtual 24, 3) := by decide +kernel
theorem d_X0_run_389 : decode cX0_run 389 = .ok (.aload_n 0, 1) := by decide +kernel
theorem d_X0_run_390 : decode cX0_run 390 = .ok (.aload_n 1, 1) := by decide +kernel
theorem d_X0_run_391 : decode cX0_run 391 = .ok (.iload 8, 2) := by decide +kernel
theorem d_X0_run_393 : decode cX0_run 393 = .ok (.iconst 3, 1) := by decide +kernel
theorem d_X0_run_394 : decode cX0_run 394 = .ok (.iload 4, 2) := by decide +kernel
theorem d_X0_run_396 : decode cX0_run 396 = .ok (.iload 5, 2) := by decide +kernel
theorem d_X0_run_398 : decode cX0_run 398 = .ok (.iconst 1, 1) := by decide +kernel
theorem d_X0_run_399 : decode cX0_run 399 = .ok (.iadd, 1) := by decide +kernel
theorem d_X0_run_400 : decode cX0_run 400 = .ok (.invokevirtual 24, 3) := by decide +kernel
theorem d_X0_run_403 : decode cX0_run 403 = .ok (.isub, 1) := by decide +kernel
theorem d_X0_run_404 : decode cX0_run 404 = .ok (.ireturn, 1) := by decide +kernel
theorem d_X0_run_405 : decode cX0_run 405 = .ok (.iconst 0, 1) := by decide +kernel
theorem d_X0_run_406 : decode cX0_run 406 = .ok (.ireturn, 1) := by decide +kernel
theorem d_X1_init_0 : decode cX1_init 0 = .ok (.aload_n 0, 1) := by decide +kernel
theorem d_X1_init_1 : decode cX1_init 1 = .ok (.invokespecial 3, 3) := by decide +kernel
theorem d_X1_init_4 : decode cX1_init 4 = .ok (.aload_n 0, 1) := by decide +kernel
theorem d_X1_init_5 : decode cX1_init 5 = .ok (.iconst 0, 1) := by decide +kernel
theorem d_X1_init_6 : decode cX1_init 6 = .ok (.putfield 9, 3) := by decide +kernel
theorem d_X1_init_9 : decode cX1_init 9 = .ok (.aload_n 0, 1) := by decide +kernel
theorem d_X1_init_10 : decode cX1_init 10 = .ok (.iconst 0, 1) := by decide +kernel
theorem d_X1_init_11 : decode cX1_init 11 = .ok (.putfield 15, 3) := by decide +kernel
theorem d_X1_init_14 : decode cX1_init 14 = .ok (.aload_n 0, 1) := by decide +kernel
theorem d_X1_init_15 : decode cX1_init 15 = .ok (.iconst 0, 1) := by decide +kernel
theorem d_X1_init_16 : decode cX1_init 16 = .ok (.putfield 18, 3) := by decide +kernel
theorem d_X1_init_19 : decode cX1_init 19 = .ok (.aload_n 0, 1) := by decide +kernel
theorem d_X1_init_20 : decode cX1_init 20 = .ok (.iconst 0, 1) := by decide +kernel
theorem d_X1_init_21 : decode cX1_init 21 = .ok (.putfield 21, 3) := by decide +kernel
theorem d_X1_init_24 : decode cX1_init 24 = .ok (.aload_n 0, 1) := by decide +kernel
theorem d_X1_init_25 : decode cX1_init 25 = .ok (.iconst 0, 1) := by decide +kernel
theorem d_X1_init_26 : decode cX1_init 26 = .ok (.putfield 24, 3) := by decide +kernel
theorem d_X1_init_29 : decode cX1_init 29 = .ok (.return_, 1) := by decide +kernel
theorem d_X1_begin_0 : decode cX1_begin 0 = .ok (.aload_n 0, 1) := by decide +kernel
theorem d_X1_begin_1 : decode cX1_begin 1 = .ok (.iload_n 2, 1) := by decide +kernel
theorem d_X1_begin_2 : decode cX1_begin 2 = .ok (.putfield 9, 3) := by decide +kernel
theorem d_X1_begin_5 : decode cX1_begin 5 = .ok (.aload_n 0, 1) := by decide +kernel
theorem d_X1_begin_6 : decode cX1_begin 6 = .ok (.iload_n 3, 1) := by decide +kernel
theorem d_X1_begin_7 : decode cX1_begin 7 = .ok (.putfield 15, 3) := by decide +kernel
theorem d_X1_begin_10 : decode cX1_begin 10 = .ok (.aload_n 0, 1) := by decide +kernel
theorem d_X1_begin_11 : decode cX1_begin 11 = .ok (.iload 4, 2) := by decide +kernel
theorem d_X1_begin_13 : decode cX1_begin 13 = .ok (.putfield 18, 3) := by decide +kernel
theorem d_X1_begin_16 : decode cX1_begin 16 = .ok (.aload_n 0, 1) := by decide +kernel
theorem d_X1_begin_17 : decode cX1_begin 17 = .ok (.iconst 0, 1) := by decide +kernel
theorem d_X1_begin_18 : decode cX1_begin 18 = .ok (.putfield 21, 3) := by decide +kernel
theorem d_X1_begin_21 : decode cX1_begin 21 = .ok (.aload_n 0, 1) := by decide +kernel
theorem d_X1_begin_22 : decode cX1_begin 22 = .ok (.iload_n 1, 1) := by decide +kernel
theorem d_X1_begin_23 : decode cX1_begin 23 = .ok (.putfield 24, 3) := by decide +kernel
theorem d_X1_begin_26 : decode cX1_begin 26 = .ok (.return_, 1) := by decide +kernel
theorem d_X1_copyFrom_0 : decode cX1_copyFrom 0 = .ok (.aload_n 0, 1) := by decide +kernel
theorem d_X1_copyFrom_1 : decode cX1_copyFrom 1 = .ok (.aload_n 1, 1) := by decide +kernel
theorem d_X1_copyFrom_2 : decode cX1_copyFrom 2 = .ok (.getfield 9, 3) := by decide +kernel
theorem d_X1_copyFrom_5 : decode cX1_copyFrom 5 = .ok (.putfield 9, 3) := by decide +kernel
theorem d_X1_copyFrom_8 : decode cX1_copyFrom 8 = .ok (.aload_n 0, 1) := by decide +kernel
theorem d_X1_copyFrom_9 : decode cX1_copyFrom 9 = .ok (.aload_n 1, 1) := by decide +kernel
theorem d_X1_copyFrom_10 : decode cX1_copyFrom 10 = .ok (.getfield 15, 3) := by decide +kernel
theorem d_X1_copyFrom_13 : decode cX1_copyFrom 13 = .ok (.putfield 15, 3) := by decide +kernel
theorem d_X1_copyFrom_16 : decode cX1_copyFrom 16 = .ok (.aload_n 0, 1) := by decide +kernel
theorem d_X1_copyFrom_17 : decode cX1_copyFrom 17 = .ok (.aload_n 1, 1) := by decide +kernel
theorem d_X1_copyFrom_18 : decode cX1_copyFrom 18 = .ok (.getfield 18, 3) := by decide +kernel
theorem d_X1_copyFrom_21 : decode cX1_copyFrom 21 = .ok (.putfield 18, 3) := by decide +kernel
theorem d_X1_copyFrom_24 : decode cX1_copyFrom 24 = .ok (.aload_n 0, 1) := by decide +kernel
theorem d_X1_copyFrom_25 : decode cX1_copyFrom 25 = .ok (.aload_n 1, 1) := by decide +kernel
theorem d_X1_copyFrom_26 : decode cX1_copyFrom 26 = .ok (.getfield 21, 3) := by decide +kernel
theorem d_X1_copyFrom_29 : decode cX1_copyFrom 29 = .ok (.putfield 21, 3) := by decide +kernel
theorem d_X1_copyFrom_32 : decode cX1_copyFrom 32 = .ok (.aload_n 0, 1) := by decide +kernel
theorem d_X1_copyFrom_33 : decode cX1_copyFrom 33 = .ok (.aload_n 1, 1) := by decide +kernel
theorem d_X1_copyFrom_34 : decode cX1_copyFrom 34 = .ok (.getfield 24, 3) := by decide +kernel
theorem d_X1_copyFrom_37 : decode cX1_copyFrom 37 = .ok (.putfield 24, 3) := by decide +kernel
theorem d_X1_copyFrom_40 : decode cX1_copyFrom 40 = .ok (.return_, 1) := by decide +kernel
theorem d_X2_init_0 : decode cX2_init 0 = .ok (.aload_n 0, 1) := by decide +kernel
theorem d_X2_init_1 : decode cX2_init 1 = .ok (.invokespecial 3, 3) := by decide +kernel
theorem d_X2_init_4 : decode cX2_init 4 = .ok (.aload_n 0, 1) := by decide +kernel
theorem d_X2_init_5 : decode cX2_init 5 = .ok (.iconst 0, 1) := by decide +kernel
theorem d_X2_init_6 : decode cX2_init 6 = .ok (.putfield 9, 3) := by decide +kernel
theorem d_X2_init_9 : decode cX2_init 9 = .ok (.aload_n 0, 1) := by decide +kernel
theorem d_X2_init_10 : decode cX2_init 10 = .ok (.iconst 0, 1) := by decide +kernel
theorem d_X2_init_11 : decode cX2_init 11 = .ok (.putfield 15, 3) := by decide +kernel
theorem d_X2_init_14 : decode cX2_init 14 = .ok (.aload_n 0, 1) := by decide +kernel
theorem d_X2_init_15 : decode cX2_init 15 = .ok (.iconst 0, 1) := by decide +kernel
theorem d_X2_init_16 : decode cX2_init 16 = .ok (.putfield 18, 3) := by decide +kernel
theorem d_X2_init_19 : decode cX2_init 19 = .ok (.aload_n 0, 1) := by decide +kernel
theorem d_X2_init_20 : decode cX2_init 20 = .ok (.iconst 0, 1) := by decide +kernel
theorem d_X2_init_21 : decode cX2_init 21 = .ok (.putfield 21, 3) := by decide +kernel
theorem d_X2_init_24 : decode cX2_init 24 = .ok (.aload_n 0, 1) := by decide +kernel
theorem d_X2_init_25 : decode cX2_init 25 = .ok (.iconst 0, 1) := by decide +kernel
theorem d_X2_init_26 : decode cX2_init 26 = .ok (.putfield 24, 3) := by decide +kernel
theorem d_X2_init_29 : decode cX2_init 29 = .ok (.aload_n 0, 1) := by decide +kernel
theorem d_X2_init_30 : decode cX2_init 30 = .ok (.iconst 0, 1) := by decide +kernel
theorem d_X2_init_31 : decode cX2_init 31 = .ok (.putfield 27, 3) := by decide +kernel
theorem d_X2_init_34 : decode cX2_init 34 = .ok (.aload_n 0, 1) := by decide +kernel
theorem d_X2_init_35 : decode cX2_init 35 = .ok (.iconst 0, 1) := by decide +kernel
theorem d_X2_init_36 : decode cX2_init 36 = .ok (.putfield 30, 3) := by decide +kernel
theorem d_X2_init_39 : decode cX2_init 39 = .ok (.aload_n 0, 1) := by decide +kernel
theorem d_X2_init_40 : decode cX2_init 40 = .ok (.iconst 0, 1) := by decide +kernel
theorem d_X2_init_41 : decode cX2_init 41 = .ok (.putfield 33, 3) := by decide +kernel
theorem d_X2_init_44 : decode cX2_init 44 = .ok (.aload_n 0, 1) := by decide +kernel
theorem d_X2_init_45 : decode cX2_init 45 = .ok (.iconst 0, 1) := by decide +kernel
theorem d_X2_init_46 : decode cX2_init 46 = .ok (.putfield 36, 3) := by decide +kernel
theorem d_X2_init_49 : decode cX2_init 49 = .ok (.aload_n 0, 1) := by decide +kernel
theorem d_X2_init_50 : decode cX2_init 50 = .ok (.new 39, 3) := by decide +kernel
theorem d_X2_init_53 : decode cX2_init 53 = .ok (.dup, 1) := by decide +kernel
theorem d_X2_init_54 : decode cX2_init 54 = .ok (.invokespecial 41, 3) := by decide +kernel
theorem d_X2_init_57 : decode cX2_init 57 = .ok (.putfield 42, 3) := by decide +kernel
theorem d_X2_init_60 : decode cX2_init 60 = .ok (.return_, 1) := by decide +kernel
theorem d_X2_begin_0 : decode cX2_begin 0 = .ok (.aload_n 0, 1) := by decide +kernel
theorem d_X2_begin_1 : decode cX2_begin 1 = .ok (.iload_n 2, 1) := by decide +kernel
theorem d_X2_begin_2 : decode cX2_begin 2 = .ok (.putfield 9, 3) := by decide +kernel
theorem d_X2_begin_5 : decode cX2_begin 5 = .ok (.aload_n 0, 1) := by decide +kernel
theorem d_X2_begin_6 : decode cX2_begin 6 = .ok (.iload_n 3, 1) := by decide +kernel
theorem d_X2_begin_7 : decode cX2_begin 7 = .ok (.putfield 15, 3) := by decide +kernel
theorem d_X2_begin_10 : decode cX2_begin 10 = .ok (.aload_n 0, 1) := by decide +kernel
theorem d_X2_begin_11 : decode cX2_begin 11 = .ok (.iload 4, 2) := by decide +kernel
theorem d_X2_begin_13 : decode cX2_begin 13 = .ok (.putfield 18, 3) := by decide +kernel
theorem d_X2_begin_16 : decode cX2_begin 16 = .ok (.aload_n 0, 1) := by decide +kernel
theorem d_X2_begin_17 : decode cX2_begin 17 = .ok (.iload 4, 2) := by decide +kernel
theorem d_X2_begin_19 : decode cX2_begin 19 = .ok (.putfield 21, 3) := by decide +kernel
theorem d_X2_begin_22 : decode cX2_begin 22 = .ok (.aload_n 0, 1) := by decide +kernel
theorem d_X2_begin_23 : decode cX2_begin 23 = .ok (.iconst 0, 1) := by decide +kernel
theorem d_X2_begin_24 : decode cX2_begin 24 = .ok (.putfield 24, 3) := by decide +kernel
theorem d_X2_begin_27 : decode cX2_begin 27 = .ok (.aload_n 0, 1) := by decide +kernel
theorem d_X2_begin_28 : decode cX2_begin 28 = .ok (.iconst 0, 1) := by decide +kernel
theorem d_X2_begin_29 : decode cX2_begin 29 = .ok (.putfield 27, 3) := by decide +kernel
theorem d_X2_begin_32 : decode cX2_begin 32 = .ok (.aload_n 0, 1) := by decide +kernel
theorem d_X2_begin_33 : decode cX2_begin 33 = .ok (.iload_n 1, 1) := by decide +kernel
theorem d_X2_begin_34 : decode cX2_begin 34 = .ok (.putfield 30, 3) := by decide +kernel
theorem d_X2_begin_37 : decode cX2_begin 37 = .ok (.aload_n 0, 1) := by decide +kernel
theorem d_X2_begin_38 : decode cX2_begin 38 = .ok (.getfield 42, 3) := by decide +kernel
theorem d_X2_begin_41 : decode cX2_begin 41 = .ok (.invokevirtual 46, 3) := by decide +kernel
theorem d_X2_begin_44 : decode cX2_begin 44 = .ok (.return_, 1) := by decide +kernel
theorem d_X2_copyFrom_0 : decode cX2_copyFrom 0 = .ok (.aload_n 0, 1) := by decide +kernel
theorem d_X2_copyFrom_1 : decode cX2_copyFrom 1 = .ok (.aload_n 1, 1) := by decide +kernel
theorem d_X2_copyFrom_2 : decode cX2_copyFrom 2 = .ok (.getfield 9, 3) := by decide +kernel
theorem d_X2_copyFrom_5 : decode cX2_copyFrom 5 = .ok (.putfield 9, 3) := by decide +kernel
theorem d_X2_copyFrom_8 : decode cX2_copyFrom 8 = .ok (.aload_n 0, 1) := by decide +kernel
theorem d_X2_copyFrom_9 : decode cX2_copyFrom 9 = .ok (.aload_n 1, 1) := by decide +kernel
theorem d_X2_copyFrom_10 : decode cX2_copyFrom 10 = .ok (.getfield 15, 3) := by decide +kernel
theorem d_X2_copyFrom_13 : decode cX2_copyFrom 13 = .ok (.putfield 15, 3) := by decide +kernel
theorem d_X2_copyFrom_16 : decode cX2_copyFrom 16 = .ok (.aload_n 0, 1) := by decide +kernel
theorem d_X2_copyFrom_17 : decode cX2_copyFrom 17 = .ok (.aload_n 1, 1) := by decide +kernel
theorem d_X2_copyFrom_18 : decode cX2_copyFrom 18 = .ok (.getfield 18, 3) := by decide +kernel
theorem d_X2_copyFrom_21 : decode cX2_copyFrom 21 = .ok (.putfield 18, 3) := by decide +kernel
theorem d_X2_copyFrom_24 : decode cX2_copyFrom 24 = .ok (.aload_n 0, 1) := by decide +kernel
theorem d_X2_copyFrom_25 : decode cX2_copyFrom 25 = .ok (.aload_n 1, 1) := by decide +kernel
theorem d_X2_copyFrom_26 : decode cX2_copyFrom 26 = .ok (.getfield 21, 3) := by decide +kernel
theorem d_X2_copyFrom_29 : decode cX2_copyFrom 29 = .ok (.putfield 21, 3) := by decide +kernel
theorem d_X2_copyFrom_32 : decode cX2_copyFrom 32 = .ok (.aload_n 0, 1) := by decide +kernel
theorem d_X2_copyFrom_33 : decode cX2_copyFrom 33 = .ok (.aload_n 1, 1) := by decide +kernel
theorem d_X2_copyFrom_34 : decode cX2_copyFrom 34 = .ok (.getfield 24, 3) := by decide +kernel
theorem d_X2_copyFrom_37 : decode cX2_copyFrom 37 = .ok (.putfield 24, 3) := by decide +kernel
theorem d_X2_copyFrom_40 : decode cX2_copyFrom 40 = .ok (.aload_n 0, 1) := by decide +kernel
theorem d_X2_copyFrom_41 : decode cX2_copyFrom 41 = .ok (.aload_n 1, 1) := by decide +kernel
theorem d_X2_copyFrom_42 : decode cX2_copyFrom 42 = .ok (.getfield 27, 3) := by decide +kernel
theorem d_X2_copyFrom_45 : decode cX2_copyFrom 45 = .ok (.putfield 27, 3) := by decide +kernel
theorem d_X2_copyFrom_48 : decode cX2_copyFrom 48 = .ok (.aload_n 0, 1) := by decide +kernel
theorem d_X2_copyFrom_49 : decode cX2_copyFrom 49 = .ok (.aload_n 1, 1) := by decide +kernel
theorem d_X2_copyFrom_50 : decode cX2_copyFrom 50 = .ok (.getfield 30, 3) := by decide +kernel
theorem d_X2_copyFrom_53 : decode cX2_copyFrom 53 = .ok (.putfield 30, 3) := by decide +kernel
theorem d_X2_copyFrom_56 : decode cX2_copyFrom 56 = .ok (.aload_n 0, 1) := by decide +kernel
theorem d_X2_copyFrom_57 : decode cX2_copyFrom 57 = .ok (.aload_n 1, 1) := by decide +kernel
theorem d_X2_copyFrom_58 : decode cX2_copyFrom 58 = .ok (.getfield 33, 3) := by decide +kernel
theorem d_X2_copyFrom_61 : decode cX2_copyFrom 61 = .ok (.putfield 33, 3) := by decide +kernel
theorem d_X2_copyFrom_64 : decode cX2_copyFrom 64 = .ok (.aload_n 0, 1) := by decide +kernel
theorem d_X2_copyFrom_65 : decode cX2_copyFrom 65 = .ok (.aload_n 1, 1) := by decide +kernel
theorem d_X2_copyFrom_66 : decode cX2_copyFrom 66 = .ok (.getfield 36, 3) := by decide +kernel
theorem d_X2_copyFrom_69 : decode cX2_copyFrom 69 = .ok (.putfield 36, 3) := by decide +kernel
theorem d_X2_copyFrom_72 : decode cX2_copyFrom 72 = .ok (.aload_n 0, 1) := by decide +kernel
theorem d_X2_copyFrom_73 : decode cX2_copyFrom 73 = .ok (.getfield 42, 3) := by decide +kernel
theorem d_X2_copyFrom_76 : decode cX2_copyFrom 76 = .ok (.aload_n 1, 1) := by decide +kernel
theorem d_X2_copyFrom_77 : decode cX2_copyFrom 77 = .ok (.getfield 42, 3) := by decide +kernel
theorem d_X2_copyFrom_80 : decode cX2_copyFrom 80 = .ok (.invokevirtual 49, 3) := by decide +kernel
theorem d_X2_copyFrom_83 : decode cX2_copyFrom 83 = .ok (.return_, 1) := by decide +kernel
theorem d_X2_isUnderWay_0 : decode cX2_isUnderWay 0 = .ok (.aload_n 0, 1) := by decide +kernel
theorem d_X2_isUnderWay_1 : decode cX2_isUnderWay 1 = .ok (.getfield 27, 3) := by decide +kernel
theorem d_X2_isUnderWay_4 : decode cX2_isUnderWay 4 = .ok (.iconst 1, 1) := by decide +kernel
theorem d_X2_isUnderWay_5 : decode cX2_isUnderWay 5 = .ok (.if_icmp .eq 11, 3) := by decide +kernel
theorem d_X2_isUnderWay_8 : decode cX2_isUnderWay 8 = .ok (.aload_n 0, 1) := by decide +kernel
theorem d_X2_isUnderWay_9 : decode cX2_isUnderWay 9 = .ok (.getfield 27, 3) := by decide +kernel
theorem d_X2_isUnderWay_12 : decode cX2_isUnderWay 12 = .ok (.iconst 2, 1) := by decide +kernel
theorem d_X2_isUnderWay_13 : decode cX2_isUnderWay 13 = .ok (.if_icmp .ne 7, 3) := by decide +kernel
theorem d_X2_isUnderWay_16 : decode cX2_isUnderWay 16 = .ok (.iconst 1, 1) := by decide +kernel
theorem d_X2_isUnderWay_17 : decode cX2_isUnderWay 17 = .ok (.goto 4, 3) := by decide +kernel
theorem d_X2_isUnderWay_20 : decode cX2_isUnderWay 20 = .ok (.iconst 0, 1) := by decide +kernel
theorem d_X2_isUnderWay_21 : decode cX2_isUnderWay 21 = .ok (.ireturn, 1) := by decide +kernel
theorem d_X2_stretchToward_0 : decode cX2_stretchToward 0 = .ok (.iload_n 1, 1) := by decide +kernel
theorem d_X2_stretchToward_1 : decode cX2_stretchToward 1 = .ok (.ifCond .eq 10, 3) := by decide +kernel
theorem d_X2_stretchToward_4 : decode cX2_stretchToward 4 = .ok (.aload_n 0, 1) := by decide +kernel
theorem d_X2_stretchToward_5 : decode cX2_stretchToward 5 = .ok (.getfield 30, 3) := by decide +kernel
theorem d_X2_stretchToward_8 : decode cX2_stretchToward 8 = .ok (.goto 9, 3) := by decide +kernel
theorem d_X2_stretchToward_11 : decode cX2_stretchToward 11 = .ok (.aload_n 0, 1) := by decide +kernel
theorem d_X2_stretchToward_12 : decode cX2_stretchToward 12 = .ok (.getfield 30, 3) := by decide +kernel
theorem d_X2_stretchToward_15 : decode cX2_stretchToward 15 = .ok (.iconst 1, 1) := by decide +kernel
theorem d_X2_stretchToward_16 : decode cX2_stretchToward 16 = .ok (.isub, 1) := by decide +kernel
theorem d_X2_stretchToward_17 : decode cX2_stretchToward 17 = .ok (.ireturn, 1) := by decide +kernel
theorem d_X2_draught_0 : decode cX2_draught 0 = .ok (.aload_n 0, 1) := by decide +kernel
theorem d_X2_draught_1 : decode cX2_draught 1 = .ok (.iconst 0, 1) := by decide +kernel
theorem d_X2_draught_2 : decode cX2_draught 2 = .ok (.invokevirtual 53, 3) := by decide +kernel
theorem d_X2_draught_5 : decode cX2_draught 5 = .ok (.ireturn, 1) := by decide +kernel
theorem d_X2_draughtWith_0 : decode cX2_draughtWith 0 = .ok (.aload_n 0, 1) := by decide +kernel
theorem d_X2_draughtWith_1 : decode cX2_draughtWith 1 = .ok (.getfield 9, 3) := by decide +kernel
theorem d_X2_draughtWith_4 : decode cX2_draughtWith 4 = .ok (.aload_n 0, 1) := by decide +kernel
theorem d_X2_draughtWith_5 : decode cX2_draughtWith 5 = .ok (.getfield 24, 3) := by decide +kernel
theorem d_X2_draughtWith_8 : decode cX2_draughtWith 8 = .ok (.iload_n 1, 1) := by decide +kernel
theorem d_X2_draughtWith_9 : decode cX2_draughtWith 9 = .ok (.iadd, 1) := by decide +kernel
theorem d_X2_draughtWith_10 : decode cX2_draughtWith 10 = .ok (.bipush 10, 2) := by decide +kernel
theorem d_X2_draughtWith_12 : decode cX2_draughtWith 12 = .ok (.idiv, 1) := by decide +kernel
theorem d_X2_draughtWith_13 : decode cX2_draughtWith 13 = .ok (.iadd, 1) := by decide +kernel
theorem d_X2_draughtWith_14 : decode cX2_draughtWith 14 = .ok (.ireturn, 1) := by decide +kernel
theorem d_X2_canTake_0 : decode cX2_canTake 0 = .ok (.aload_n 0, 1) := by decide +kernel
theorem d_X2_canTake_1 : decode cX2_canTake 1 = .ok (.getfield 24, 3) := by decide +kernel
theorem d_X2_canTake_4 : decode cX2_canTake 4 = .ok (.iload_n 1, 1) := by decide +kernel
theorem d_X2_canTake_5 : decode cX2_canTake 5 = .ok (.iadd, 1) := by decide +kernel
theorem d_X2_canTake_6 : decode cX2_canTake 6 = .ok (.aload_n 0, 1) := by decide +kernel
theorem d_X2_canTake_7 : decode cX2_canTake 7 = .ok (.getfield 15, 3) := by decide +kernel
theorem d_X2_canTake_10 : decode cX2_canTake 10 = .ok (.if_icmp .gt 16, 3) := by decide +kernel
theorem d_X2_canTake_13 : decode cX2_canTake 13 = .ok (.aload_n 0, 1) := by decide +kernel
theorem d_X2_canTake_14 : decode cX2_canTake 14 = .ok (.iload_n 1, 1) := by decide +kernel
theorem d_X2_canTake_15 : decode cX2_canTake 15 = .ok (.invokevirtual 53, 3) := by decide +kernel
theorem d_X2_canTake_18 : decode cX2_canTake 18 = .ok (.iload_n 2, 1) := by decide +kernel
theorem d_X2_canTake_19 : decode cX2_canTake 19 = .ok (.if_icmp .gt 7, 3) := by decide +kernel
theorem d_X2_canTake_22 : decode cX2_canTake 22 = .ok (.iconst 1, 1) := by decide +kernel
theorem d_X2_canTake_23 : decode cX2_canTake 23 = .ok (.goto 4, 3) := by decide +kernel
theorem d_X2_canTake_26 : decode cX2_canTake 26 = .ok (.iconst 0, 1) := by decide +kernel
theorem d_X2_canTake_27 : decode cX2_canTake 27 = .ok (.ireturn, 1) := by decide +kernel
theorem d_X3_init_0 : decode cX3_init 0 = .ok (.aload_n 0, 1) := by decide +kernel
theorem d_X3_init_1 : decode cX3_init 1 = .ok (.invokespecial 1, 3) := by decide +kernel
theorem d_X3_init_4 : decode cX3_init 4 = .ok (.aload_n 0, 1) := by decide +kernel
theorem d_X3_init_5 : decode cX3_init 5 = .ok (.iconst 0, 1) := by decide +kernel
theorem d_X3_init_6 : decode cX3_init 6 = .ok (.putfield 7, 3) := by decide +kernel
theorem d_X3_init_9 : decode cX3_init 9 = .ok (.aload_n 0, 1) := by decide +kernel
theorem d_X3_init_10 : decode cX3_init 10 = .ok (.new 13, 3) := by decide +kernel
theorem d_X3_init_13 : decode cX3_init 13 = .ok (.dup, 1) := by decide +kernel
theorem d_X3_init_14 : decode cX3_init 14 = .ok (.invokespecial 15, 3) := by decide +kernel
theorem d_X3_init_17 : decode cX3_init 17 = .ok (.putfield 16, 3) := by decide +kernel
theorem d_X3_init_20 : decode cX3_init 20 = .ok (.return_, 1) := by decide +kernel
theorem d_X3_copyFrom_0 : decode cX3_copyFrom 0 = .ok (.aload_n 0, 1) := by decide +kernel
theorem d_X3_copyFrom_1 : decode cX3_copyFrom 1 = .ok (.aload_n 1, 1) := by decide +kernel
theorem d_X3_copyFrom_2 : decode cX3_copyFrom 2 = .ok (.getfield 7, 3) := by decide +kernel
theorem d_X3_copyFrom_5 : decode cX3_copyFrom 5 = .ok (.putfield 7, 3) := by decide +kernel
theorem d_X3_copyFrom_8 : decode cX3_copyFrom 8 = .ok (.aload_n 0, 1) := by decide +kernel
theorem d_X3_copyFrom_9 : decode cX3_copyFrom 9 = .ok (.getfield 16, 3) := by decide +kernel
theorem d_X3_copyFrom_12 : decode cX3_copyFrom 12 = .ok (.aload_n 1, 1) := by decide +kernel
theorem d_X3_copyFrom_13 : decode cX3_copyFrom 13 = .ok (.getfield 16, 3) := by decide +kernel
theorem d_X3_copyFrom_16 : decode cX3_copyFrom 16 = .ok (.invokevirtual 20, 3) := by decide +kernel
theorem d_X3_copyFrom_19 : decode cX3_copyFrom 19 = .ok (.return_, 1) := by decide +kernel
theorem d_X4_init_0 : decode cX4_init 0 = .ok (.aload_n 0, 1) := by decide +kernel
theorem d_X4_init_1 : decode cX4_init 1 = .ok (.invokespecial 3, 3) := by decide +kernel
theorem d_X4_init_4 : decode cX4_init 4 = .ok (.aload_n 0, 1) := by decide +kernel
theorem d_X4_init_5 : decode cX4_init 5 = .ok (.iconst 0, 1) := by decide +kernel
theorem d_X4_init_6 : decode cX4_init 6 = .ok (.putfield 9, 3) := by decide +kernel
theorem d_X4_init_9 : decode cX4_init 9 = .ok (.aload_n 0, 1) := by decide +kernel
theorem d_X4_init_10 : decode cX4_init 10 = .ok (.iconst 0, 1) := by decide +kernel
theorem d_X4_init_11 : decode cX4_init 11 = .ok (.putfield 15, 3) := by decide +kernel
theorem d_X4_init_14 : decode cX4_init 14 = .ok (.aload_n 0, 1) := by decide +kernel
theorem d_X4_init_15 : decode cX4_init 15 = .ok (.iconst 0, 1) := by decide +kernel
theorem d_X4_init_16 : decode cX4_init 16 = .ok (.putfield 18, 3) := by decide +kernel
theorem d_X4_init_19 : decode cX4_init 19 = .ok (.aload_n 0, 1) := by decide +kernel
theorem d_X4_init_20 : decode cX4_init 20 = .ok (.iconst 0, 1) := by decide +kernel
theorem d_X4_init_21 : decode cX4_init 21 = .ok (.putfield 21, 3) := by decide +kernel
theorem d_X4_init_24 : decode cX4_init 24 = .ok (.aload_n 0, 1) := by decide +kernel
theorem d_X4_init_25 : decode cX4_init 25 = .ok (.iconst 0, 1) := by decide +kernel
theorem d_X4_init_26 : decode cX4_init 26 = .ok (.putfield 24, 3) := by decide +kernel
theorem d_X4_init_29 : decode cX4_init 29 = .ok (.aload_n 0, 1) := by decide +kernel
theorem d_X4_init_30 : decode cX4_init 30 = .ok (.iconst 0, 1) := by decide +kernel
theorem d_X4_init_31 : decode cX4_init 31 = .ok (.putfield 27, 3) := by decide +kernel
theorem d_X4_init_34 : decode cX4_init 34 = .ok (.aload_n 0, 1) := by decide +kernel
theorem d_X4_init_35 : decode cX4_init 35 = .ok (.iconst 0, 1) := by decide +kernel
theorem d_X4_init_36 : decode cX4_init 36 = .ok (.putfield 30, 3) := by decide +kernel
theorem d_X4_init_39 : decode cX4_init 39 = .ok (.aload_n 0, 1) := by decide +kernel
theorem d_X4_init_40 : decode cX4_init 40 = .ok (.iconst 0, 1) := by decide +kernel
theorem d_X4_init_41 : decode cX4_init 41 = .ok (.putfield 33, 3) := by decide +kernel
theorem d_X4_init_44 : decode cX4_init 44 = .ok (.aload_n 0, 1) := by decide +kernel
theorem d_X4_init_45 : decode cX4_init 45 = .ok (.bipush 100, 2) := by decide +kernel
theorem d_X4_init_47 : decode cX4_init 47 = .ok (.newarray .int, 2) := by decide +kernel
theorem d_X4_init_49 : decode cX4_init 49 = .ok (.putfield 36, 3) := by decide +kernel
theorem d_X4_init_52 : decode cX4_init 52 = .ok (.aload_n 0, 1) := by decide +kernel
theorem d_X4_init_53 : decode cX4_init 53 = .ok (.bipush 100, 2) := by decide +kernel
theorem d_X4_init_55 : decode cX4_init 55 = .ok (.newarray .boolean, 2) := by decide +kernel
theorem d_X4_init_57 : decode cX4_init 57 = .ok (.putfield 40, 3) := by decide +kernel
theorem d_X4_init_60 : decode cX4_init 60 = .ok (.aload_n 0, 1) := by decide +kernel
theorem d_X4_init_61 : decode cX4_init 61 = .ok (.bipush 10, 2) := by decide +kernel
theorem d_X4_init_63 : decode cX4_init 63 = .ok (.anewarray 44, 3) := by decide +kernel
theorem d_X4_init_66 : decode cX4_init 66 = .ok (.putfield 46, 3) := by decide +kernel
theorem d_X4_init_69 : decode cX4_init 69 = .ok (.aload_n 0, 1) := by decide +kernel
theorem d_X4_init_70 : decode cX4_init 70 = .ok (.bipush 11, 2) := by decide +kernel
theorem d_X4_init_72 : decode cX4_init 72 = .ok (.anewarray 50, 3) := by decide +kernel
theorem d_X4_init_75 : decode cX4_init 75 = .ok (.putfield 52, 3) := by decide +kernel
theorem d_X4_init_78 : decode cX4_init 78 = .ok (.aload_n 0, 1) := by decide +kernel
theorem d_X4_init_79 : decode cX4_init 79 = .ok (.iconst 5, 1) := by decide +kernel
theorem d_X4_init_80 : decode cX4_init 80 = .ok (.anewarray 56, 3) := by decide +kernel
theorem d_X4_init_83 : decode cX4_init 83 = .ok (.putfield 58, 3) := by decide +kernel
theorem d_X4_init_86 : decode cX4_init 86 = .ok (.aload_n 0, 1) := by decide +kernel
theorem d_X4_init_87 : decode cX4_init 87 = .ok (.bipush 12, 2) := by decide +kernel
theorem d_X4_init_89 : decode cX4_init 89 = .ok (.anewarray 62, 3) := by decide +kernel
theorem d_X4_init_92 : decode cX4_init 92 = .ok (.putfield 64, 3) := by decide +kernel
theorem d_X4_init_95 : decode cX4_init 95 = .ok (.aload_n 0, 1) := by decide +kernel
theorem d_X4_init_96 : decode cX4_init 96 = .ok (.bipush 6, 2) := by decide +kernel
theorem d_X4_init_98 : decode cX4_init 98 = .ok (.anewarray 68, 3) := by decide +kernel
theorem d_X4_init_101 : decode cX4_init 101 = .ok (.putfield 70, 3) := by decide +kernel
theorem d_X4_init_104 : decode cX4_init 104 = .ok (.aload_n 0, 1) := by decide +kernel
theorem d_X4_init_105 : decode cX4_init 105 = .ok (.bipush 8, 2) := by decide +kernel
theorem d_X4_init_107 : decode cX4_init 107 = .ok (.anewarray 74, 3) := by decide +kernel
theorem d_X4_init_110 : decode cX4_init 110 = .ok (.putfield 76, 3) := by decide +kernel
theorem d_X4_init_113 : decode cX4_init 113 = .ok (.aload_n 0, 1) := by decide +kernel
theorem d_X4_init_114 : decode cX4_init 114 = .ok (.getfield 36, 3) := by decide +kernel
theorem d_X4_init_117 : decode cX4_init 117 = .ok (.sipush (-1000), 3) := by decide +kernel
theorem d_X4_init_120 : decode cX4_init 120 = .ok (.invokestatic 80, 3) := by decide +kernel
theorem d_X4_init_123 : decode cX4_init 123 = .ok (.iconst 0, 1) := by decide +kernel
theorem d_X4_init_124 : decode cX4_init 124 = .ok (.istore_n 1, 1) := by decide +kernel
theorem d_X4_init_125 : decode cX4_init 125 = .ok (.iload_n 1, 1) := by decide +kernel
theorem d_X4_init_126 : decode cX4_init 126 = .ok (.bipush 10, 2) := by decide +kernel
theorem d_X4_init_128 : decode cX4_init 128 = .ok (.if_icmp .ge 22, 3) := by decide +kernel
theorem d_X4_init_131 : decode cX4_init 131 = .ok (.aload_n 0, 1) := by decide +kernel
theorem d_X4_init_132 : decode cX4_init 132 = .ok (.getfield 46, 3) := by decide +kernel
theorem d_X4_init_135 : decode cX4_init 135 = .ok (.iload_n 1, 1) := by decide +kernel
theorem d_X4_init_136 : decode cX4_init 136 = .ok (.new 44, 3) := by decide +kernel
theorem d_X4_init_139 : decode cX4_init 139 = .ok (.dup, 1) := by decide +kernel
theorem d_X4_init_140 : decode cX4_init 140 = .ok (.invokespecial 86, 3) := by decide +kernel
theorem d_X4_init_143 : decode cX4_init 143 = .ok (.aastore, 1) := by decide +kernel
theorem d_X4_init_144 : decode cX4_init 144 = .ok (.iinc 1 1, 3) := by decide +kernel
theorem d_X4_init_147 : decode cX4_init 147 = .ok (.goto (-22), 3) := by decide +kernel
theorem d_X4_init_150 : decode cX4_init 150 = .ok (.iconst 0, 1) := by decide +kernel
theorem d_X4_init_151 : decode cX4_init 151 = .ok (.istore_n 1, 1) := by decide +kernel
theorem d_X4_init_152 : decode cX4_init 152 = .ok (.iload_n 1, 1) := by decide +kernel
theorem d_X4_init_153 : decode cX4_init 153 = .ok (.bipush 11, 2) := by decide +kernel
theorem d_X4_init_155 : decode cX4_init 155 = .ok (.if_icmp .ge 22, 3) := by decide +kernel
theorem d_X4_init_158 : decode cX4_init 158 = .ok (.aload_n 0, 1) := by decide +kernel
theorem d_X4_init_159 : decode cX4_init 159 = .ok (.getfield 52, 3) := by decide +kernel
theorem d_X4_init_162 : decode cX4_init 162 = .ok (.iload_n 1, 1) := by decide +kernel
theorem d_X4_init_163 : decode cX4_init 163 = .ok (.new 50, 3) := by decide +kernel
theorem d_X4_init_166 : decode cX4_init 166 = .ok (.dup, 1) := by decide +kernel
theorem d_X4_init_167 : decode cX4_init 167 = .ok (.invokespecial 87, 3) := by decide +kernel
theorem d_X4_init_170 : decode cX4_init 170 = .ok (.aastore, 1) := by decide +kernel
theorem d_X4_init_171 : decode cX4_init 171 = .ok (.iinc 1 1, 3) := by decide +kernel
theorem d_X4_init_174 : decode cX4_init 174 = .ok (.goto (-22), 3) := by decide +kernel
theorem d_X4_init_177 : decode cX4_init 177 = .ok (.iconst 0, 1) := by decide +kernel
theorem d_X4_init_178 : decode cX4_init 178 = .ok (.istore_n 1, 1) := by decide +kernel
theorem d_X4_init_179 : decode cX4_init 179 = .ok (.iload_n 1, 1) := by decide +kernel
theorem d_X4_init_180 : decode cX4_init 180 = .ok (.iconst 5, 1) := by decide +kernel
theorem d_X4_init_181 : decode cX4_init 181 = .ok (.if_icmp .ge 22, 3) := by decide +kernel
theorem d_X4_init_184 : decode cX4_init 184 = .ok (.aload_n 0, 1) := by decide +kernel
theorem d_X4_init_185 : decode cX4_init 185 = .ok (.getfield 58, 3) := by decide +kernel
theorem d_X4_init_188 : decode cX4_init 188 = .ok (.iload_n 1, 1) := by decide +kernel
theorem d_X4_init_189 : decode cX4_init 189 = .ok (.new 56, 3) := by decide +kernel
theorem d_X4_init_192 : decode cX4_init 192 = .ok (.dup, 1) := by decide +kernel
theorem d_X4_init_193 : decode cX4_init 193 = .ok (.invokespecial 88, 3) := by decide +kernel
theorem d_X4_init_196 : decode cX4_init 196 = .ok (.aastore, 1) := by decide +kernel
theorem d_X4_init_197 : decode cX4_init 197 = .ok (.iinc 1 1, 3) := by decide +kernel
theorem d_X4_init_200 : decode cX4_init 200 = .ok (.goto (-21), 3) := by decide +kernel
theorem d_X4_init_203 : decode cX4_init 203 = .ok (.iconst 0, 1) := by decide +kernel
theorem d_X4_init_204 : decode cX4_init 204 = .ok (.istore_n 1, 1) := by decide +kernel
theorem d_X4_init_205 : decode cX4_init 205 = .ok (.iload_n 1, 1) := by decide +kernel
theorem d_X4_init_206 : decode cX4_init 206 = .ok (.bipush 12, 2) := by decide +kernel
theorem d_X4_init_208 : decode cX4_init 208 = .ok (.if_icmp .ge 22, 3) := by decide +kernel
theorem d_X4_init_211 : decode cX4_init 211 = .ok (.aload_n 0, 1) := by decide +kernel
theorem d_X4_init_212 : decode cX4_init 212 = .ok (.getfield 64, 3) := by decide +kernel
theorem d_X4_init_215 : decode cX4_init 215 = .ok (.iload_n 1, 1) := by decide +kernel
theorem d_X4_init_216 : decode cX4_init 216 = .ok (.new 62, 3) := by decide +kernel
theorem d_X4_init_219 : decode cX4_init 219 = .ok (.dup, 1) := by decide +kernel
theorem d_X4_init_220 : decode cX4_init 220 = .ok (.invokespecial 89, 3) := by decide +kernel
theorem d_X4_init_223 : decode cX4_init 223 = .ok (.aastore, 1) := by decide +kernel
theorem d_X4_init_224 : decode cX4_init 224 = .ok (.iinc 1 1, 3) := by decide +kernel
theorem d_X4_init_227 : decode cX4_init 227 = .ok (.goto (-22), 3) := by decide +kernel
theorem d_X4_init_230 : decode cX4_init 230 = .ok (.iconst 0, 1) := by decide +kernel
theorem d_X4_init_231 : decode cX4_init 231 = .ok (.istore_n 1, 1) := by decide +kernel
theorem d_X4_init_232 : decode cX4_init 232 = .ok (.iload_n 1, 1) := by decide +kernel
theorem d_X4_init_233 : decode cX4_init 233 = .ok (.bipush 6, 2) := by decide +kernel
theorem d_X4_init_235 : decode cX4_init 235 = .ok (.if_icmp .ge 22, 3) := by decide +kernel
theorem d_X4_init_238 : decode cX4_init 238 = .ok (.aload_n 0, 1) := by decide +kernel
theorem d_X4_init_239 : decode cX4_init 239 = .ok (.getfield 70, 3) := by decide +kernel
theorem d_X4_init_242 : decode cX4_init 242 = .ok (.iload_n 1, 1) := by decide +kernel
theorem d_X4_init_243 : decode cX4_init 243 = .ok (.new 68, 3) := by decide +kernel
theorem d_X4_init_246 : decode cX4_init 246 = .ok (.dup, 1) := by decide +kernel
theorem d_X4_init_247 : decode cX4_init 247 = .ok (.invokespecial 90, 3) := by decide +kernel
theorem d_X4_init_250 : decode cX4_init 250 = .ok (.aastore, 1) := by decide +kernel
theorem d_X4_init_251 : decode cX4_init 251 = .ok (.iinc 1 1, 3) := by decide +kernel
theorem d_X4_init_254 : decode cX4_init 254 = .ok (.goto (-22), 3) := by decide +kernel
theorem d_X4_init_257 : decode cX4_init 257 = .ok (.iconst 0, 1) := by decide +kernel
theorem d_X4_init_258 : decode cX4_init 258 = .ok (.istore_n 1, 1) := by decide +kernel
theorem d_X4_init_259 : decode cX4_init 259 = .ok (.iload_n 1, 1) := by decide +kernel
theorem d_X4_init_260 : decode cX4_init 260 = .ok (.bipush 8, 2) := by decide +kernel
theorem d_X4_init_262 : decode cX4_init 262 = .ok (.if_icmp .ge 22, 3) := by decide +kernel
theorem d_X4_init_265 : decode cX4_init 265 = .ok (.aload_n 0, 1) := by decide +kernel
theorem d_X4_init_266 : decode cX4_init 266 = .ok (.getfield 76, 3) := by decide +kernel
theorem d_X4_init_269 : decode cX4_init 269 = .ok (.iload_n 1, 1) := by decide +kernel
theorem d_X4_init_270 : decode cX4_init 270 = .ok (.new 74, 3) := by decide +kernel
theorem d_X4_init_273 : decode cX4_init 273 = .ok (.dup, 1) := by decide +kernel
theorem d_X4_init_274 : decode cX4_init 274 = .ok (.invokespecial 91, 3) := by decide +kernel
theorem d_X4_init_277 : decode cX4_init 277 = .ok (.aastore, 1) := by decide +kernel
theorem d_X4_init_278 : decode cX4_init 278 = .ok (.iinc 1 1, 3) := by decide +kernel
theorem d_X4_init_281 : decode cX4_init 281 = .ok (.goto (-22), 3) := by decide +kernel
theorem d_X4_init_284 : decode cX4_init 284 = .ok (.return_, 1) := by decide +kernel
theorem d_X4_copyFrom_0 : decode cX4_copyFrom 0 = .ok (.aload_n 0, 1) := by decide +kernel
theorem d_X4_copyFrom_1 : decode cX4_copyFrom 1 = .ok (.aload_n 1, 1) := by decide +kernel
theorem d_X4_copyFrom_2 : decode cX4_copyFrom 2 = .ok (.getfield 9, 3) := by decide +kernel
theorem d_X4_copyFrom_5 : decode cX4_copyFrom 5 = .ok (.putfield 9, 3) := by decide +kernel
theorem d_X4_copyFrom_8 : decode cX4_copyFrom 8 = .ok (.aload_n 0, 1) := by decide +kernel
theorem d_X4_copyFrom_9 : decode cX4_copyFrom 9 = .ok (.aload_n 1, 1) := by decide +kernel
theorem d_X4_copyFrom_10 : decode cX4_copyFrom 10 = .ok (.getfield 15, 3) := by decide +kernel
theorem d_X4_copyFrom_13 : decode cX4_copyFrom 13 = .ok (.putfield 15, 3) := by decide +kernel
theorem d_X4_copyFrom_16 : decode cX4_copyFrom 16 = .ok (.aload_n 0, 1) := by decide +kernel
theorem d_X4_copyFrom_17 : decode cX4_copyFrom 17 = .ok (.aload_n 1, 1) := by decide +kernel
theorem d_X4_copyFrom_18 : decode cX4_copyFrom 18 = .ok (.getfield 18, 3) := by decide +kernel
theorem d_X4_copyFrom_21 : decode cX4_copyFrom 21 = .ok (.putfield 18, 3) := by decide +kernel
theorem d_X4_copyFrom_24 : decode cX4_copyFrom 24 = .ok (.aload_n 0, 1) := by decide +kernel
theorem d_X4_copyFrom_25 : decode cX4_copyFrom 25 = .ok (.aload_n 1, 1) := by decide +kernel
theorem d_X4_copyFrom_26 : decode cX4_copyFrom 26 = .ok (.getfield 21, 3) := by decide +kernel
theorem d_X4_copyFrom_29 : decode cX4_copyFrom 29 = .ok (.putfield 21, 3) := by decide +kernel
theorem d_X4_copyFrom_32 : decode cX4_copyFrom 32 = .ok (.aload_n 0, 1) := by decide +kernel
theorem d_X4_copyFrom_33 : decode cX4_copyFrom 33 = .ok (.aload_n 1, 1) := by decide +kernel
theorem d_X4_copyFrom_34 : decode cX4_copyFrom 34 = .ok (.getfield 24, 3) := by decide +kernel
theorem d_X4_copyFrom_37 : decode cX4_copyFrom 37 = .ok (.putfield 24, 3) := by decide +kernel
theorem d_X4_copyFrom_40 : decode cX4_copyFrom 40 = .ok (.aload_n 0, 1) := by decide +kernel
theorem d_X4_copyFrom_41 : decode cX4_copyFrom 41 = .ok (.aload_n 1, 1) := by decide +kernel
theorem d_X4_copyFrom_42 : decode cX4_copyFrom 42 = .ok (.getfield 27, 3) := by decide +kernel
theorem d_X4_copyFrom_45 : decode cX4_copyFrom 45 = .ok (.putfield 27, 3) := by decide +kernel
theorem d_X4_copyFrom_48 : decode cX4_copyFrom 48 = .ok (.aload_n 0, 1) := by decide +kernel
theorem d_X4_copyFrom_49 : decode cX4_copyFrom 49 = .ok (.aload_n 1, 1) := by decide +kernel
theorem d_X4_copyFrom_50 : decode cX4_copyFrom 50 = .ok (.getfield 30, 3) := by decide +kernel
theorem d_X4_copyFrom_53 : decode cX4_copyFrom 53 = .ok (.putfield 30, 3) := by decide +kernel
theorem d_X4_copyFrom_56 : decode cX4_copyFrom 56 = .ok (.aload_n 0, 1) := by decide +kernel
theorem d_X4_copyFrom_57 : decode cX4_copyFrom 57 = .ok (.aload_n 1, 1) := by decide +kernel
theorem d_X4_copyFrom_58 : decode cX4_copyFrom 58 = .ok (.getfield 33, 3) := by decide +kernel
theorem d_X4_copyFrom_61 : decode cX4_copyFrom 61 = .ok (.putfield 33, 3) := by decide +kernel
theorem d_X4_copyFrom_64 : decode cX4_copyFrom 64 = .ok (.aload_n 1, 1) := by decide +kernel
theorem d_X4_copyFrom_65 : decode cX4_copyFrom 65 = .ok (.getfield 36, 3) := by decide +kernel
theorem d_X4_copyFrom_68 : decode cX4_copyFrom 68 = .ok (.iconst 0, 1) := by decide +kernel
theorem d_X4_copyFrom_69 : decode cX4_copyFrom 69 = .ok (.aload_n 0, 1) := by decide +kernel
theorem d_X4_copyFrom_70 : decode cX4_copyFrom 70 = .ok (.getfield 36, 3) := by decide +kernel
theorem d_X4_copyFrom_73 : decode cX4_copyFrom 73 = .ok (.iconst 0, 1) := by decide +kernel
theorem d_X4_copyFrom_74 : decode cX4_copyFrom 74 = .ok (.bipush 100, 2) := by decide +kernel
theorem d_X4_copyFrom_76 : decode cX4_copyFrom 76 = .ok (.invokestatic 92, 3) := by decide +kernel
theorem d_X4_copyFrom_79 : decode cX4_copyFrom 79 = .ok (.aload_n 1, 1) := by decide +kernel
theorem d_X4_copyFrom_80 : decode cX4_copyFrom 80 = .ok (.getfield 40, 3) := by decide +kernel
theorem d_X4_copyFrom_83 : decode cX4_copyFrom 83 = .ok (.iconst 0, 1) := by decide +kernel
theorem d_X4_copyFrom_84 : decode cX4_copyFrom 84 = .ok (.aload_n 0, 1) := by decide +kernel
theorem d_X4_copyFrom_85 : decode cX4_copyFrom 85 = .ok (.getfield 40, 3) := by decide +kernel
theorem d_X4_copyFrom_88 : decode cX4_copyFrom 88 = .ok (.iconst 0, 1) := by decide +kernel
theorem d_X4_copyFrom_89 : decode cX4_copyFrom 89 = .ok (.bipush 100, 2) := by decide +kernel
theorem d_X4_copyFrom_91 : decode cX4_copyFrom 91 = .ok (.invokestatic 92, 3) := by decide +kernel
theorem d_X4_copyFrom_94 : decode cX4_copyFrom 94 = .ok (.aload_n 0, 1) := by decide +kernel
theorem d_X4_copyFrom_95 : decode cX4_copyFrom 95 = .ok (.aload_n 1, 1) := by decide +kernel
theorem d_X4_copyFrom_96 : decode cX4_copyFrom 96 = .ok (.invokevirtual 98, 3) := by decide +kernel
theorem d_X4_copyFrom_99 : decode cX4_copyFrom 99 = .ok (.return_, 1) := by decide +kernel
theorem d_X4_copyThings_0 : decode cX4_copyThings 0 = .ok (.iconst 0, 1) := by decide +kernel
theorem d_X4_copyThings_1 : decode cX4_copyThings 1 = .ok (.istore_n 2, 1) := by decide +kernel
theorem d_X4_copyThings_2 : decode cX4_copyThings 2 = .ok (.iload_n 2, 1) := by decide +kernel
theorem d_X4_copyThings_3 : decode cX4_copyThings 3 = .ok (.bipush 10, 2) := by decide +kernel
theorem d_X4_copyThings_5 : decode cX4_copyThings 5 = .ok (.if_icmp .ge 24, 3) := by decide +kernel
theorem d_X4_copyThings_8 : decode cX4_copyThings 8 = .ok (.aload_n 0, 1) := by decide +kernel
theorem d_X4_copyThings_9 : decode cX4_copyThings 9 = .ok (.getfield 46, 3) := by decide +kernel
theorem d_X4_copyThings_12 : decode cX4_copyThings 12 = .ok (.iload_n 2, 1) := by decide +kernel
theorem d_X4_copyThings_13 : decode cX4_copyThings 13 = .ok (.aaload, 1) := by decide +kernel
theorem d_X4_copyThings_14 : decode cX4_copyThings 14 = .ok (.aload_n 1, 1) := by decide +kernel
theorem d_X4_copyThings_15 : decode cX4_copyThings 15 = .ok (.getfield 46, 3) := by decide +kernel
theorem d_X4_copyThings_18 : decode cX4_copyThings 18 = .ok (.iload_n 2, 1) := by decide +kernel
theorem d_X4_copyThings_19 : decode cX4_copyThings 19 = .ok (.aaload, 1) := by decide +kernel
theorem d_X4_copyThings_20 : decode cX4_copyThings 20 = .ok (.invokevirtual 102, 3) := by decide +kernel
theorem d_X4_copyThings_23 : decode cX4_copyThings 23 = .ok (.iinc 2 1, 3) := by decide +kernel
theorem d_X4_copyThings_26 : decode cX4_copyThings 26 = .ok (.goto (-24), 3) := by decide +kernel
theorem d_X4_copyThings_29 : decode cX4_copyThings 29 = .ok (.iconst 0, 1) := by decide +kernel
theorem d_X4_copyThings_30 : decode cX4_copyThings 30 = .ok (.istore_n 2, 1) := by decide +kernel
theorem d_X4_copyThings_31 : decode cX4_copyThings 31 = .ok (.iload_n 2, 1) := by decide +kernel
theorem d_X4_copyThings_32 : decode cX4_copyThings 32 = .ok (.bipush 11, 2) := by decide +kernel
theorem d_X4_copyThings_34 : decode cX4_copyThings 34 = .ok (.if_icmp .ge 24, 3) := by decide +kernel
theorem d_X4_copyThings_37 : decode cX4_copyThings 37 = .ok (.aload_n 0, 1) := by decide +kernel
theorem d_X4_copyThings_38 : decode cX4_copyThings 38 = .ok (.getfield 52, 3) := by decide +kernel
theorem d_X4_copyThings_41 : decode cX4_copyThings 41 = .ok (.iload_n 2, 1) := by decide +kernel
theorem d_X4_copyThings_42 : decode cX4_copyThings 42 = .ok (.aaload, 1) := by decide +kernel
theorem d_X4_copyThings_43 : decode cX4_copyThings 43 = .ok (.aload_n 1, 1) := by decide +kernel
theorem d_X4_copyThings_44 : decode cX4_copyThings 44 = .ok (.getfield 52, 3) := by decide +kernel
theorem d_X4_copyThings_47 : decode cX4_copyThings 47 = .ok (.iload_n 2, 1) := by decide +kernel
theorem d_X4_copyThings_48 : decode cX4_copyThings 48 = .ok (.aaload, 1) := by decide +kernel
theorem d_X4_copyThings_49 : decode cX4_copyThings 49 = .ok (.invokevirtual 106, 3) := by decide +kernel
theorem d_X4_copyThings_52 : decode cX4_copyThings 52 = .ok (.iinc 2 1, 3) := by decide +kernel
theorem d_X4_copyThings_55 : decode cX4_copyThings 55 = .ok (.goto (-24), 3) := by decide +kernel
theorem d_X4_copyThings_58 : decode cX4_copyThings 58 = .ok (.iconst 0, 1) := by decide +kernel
theorem d_X4_copyThings_59 : decode cX4_copyThings 59 = .ok (.istore_n 2, 1) := by decide +kernel
theorem d_X4_copyThings_60 : decode cX4_copyThings 60 = .ok (.iload_n 2, 1) := by decide +kernel
theorem d_X4_copyThings_61 : decode cX4_copyThings 61 = .ok (.iconst 5, 1) := by decide +kernel
theorem d_X4_copyThings_62 : decode cX4_copyThings 62 = .ok (.if_icmp .ge 24, 3) := by decide +kernel
theorem d_X4_copyThings_65 : decode cX4_copyThings 65 = .ok (.aload_n 0, 1) := by decide +kernel
theorem d_X4_copyThings_66 : decode cX4_copyThings 66 = .ok (.getfield 58, 3) := by decide +kernel
theorem d_X4_copyThings_69 : decode cX4_copyThings 69 = .ok (.iload_n 2, 1) := by decide +kernel
theorem d_X4_copyThings_70 : decode cX4_copyThings 70 = .ok (.aaload, 1) := by decide +kernel
theorem d_X4_copyThings_71 : decode cX4_copyThings 71 = .ok (.aload_n 1, 1) := by decide +kernel
theorem d_X4_copyThings_72 : decode cX4_copyThings 72 = .ok (.getfield 58, 3) := by decide +kernel
theorem d_X4_copyThings_75 : decode cX4_copyThings 75 = .ok (.iload_n 2, 1) := by decide +kernel
theorem d_X4_copyThings_76 : decode cX4_copyThings 76 = .ok (.aaload, 1) := by decide +kernel
theorem d_X4_copyThings_77 : decode cX4_copyThings 77 = .ok (.invokevirtual 109, 3) := by decide +kernel
theorem d_X4_copyThings_80 : decode cX4_copyThings 80 = .ok (.iinc 2 1, 3) := by decide +kernel
theorem d_X4_copyThings_83 : decode cX4_copyThings 83 = .ok (.goto (-23), 3) := by decide +kernel
theorem d_X4_copyThings_86 : decode cX4_copyThings 86 = .ok (.iconst 0, 1) := by decide +kernel
theorem d_X4_copyThings_87 : decode cX4_copyThings 87 = .ok (.istore_n 2, 1) := by decide +kernel
theorem d_X4_copyThings_88 : decode cX4_copyThings 88 = .ok (.iload_n 2, 1) := by decide +kernel
theorem d_X4_copyThings_89 : decode cX4_copyThings 89 = .ok (.bipush 12, 2) := by decide +kernel
theorem d_X4_copyThings_91 : decode cX4_copyThings 91 = .ok (.if_icmp .ge 24, 3) := by decide +kernel
theorem d_X4_copyThings_94 : decode cX4_copyThings 94 = .ok (.aload_n 0, 1) := by decide +kernel
theorem d_X4_copyThings_95 : decode cX4_copyThings 95 = .ok (.getfield 64, 3) := by decide +kernel
theorem d_X4_copyThings_98 : decode cX4_copyThings 98 = .ok (.iload_n 2, 1) := by decide +kernel
theorem d_X4_copyThings_99 : decode cX4_copyThings 99 = .ok (.aaload, 1) := by decide +kernel
theorem d_X4_copyThings_100 : decode cX4_copyThings 100 = .ok (.aload_n 1, 1) := by decide +kernel
theorem d_X4_copyThings_101 : decode cX4_copyThings 101 = .ok (.getfield 64, 3) := by decide +kernel
theorem d_X4_copyThings_104 : decode cX4_copyThings 104 = .ok (.iload_n 2, 1) := by decide +kernel
theorem d_X4_copyThings_105 : decode cX4_copyThings 105 = .ok (.aaload, 1) := by decide +kernel
theorem d_X4_copyThings_106 : decode cX4_copyThings 106 = .ok (.invokevirtual 112, 3) := by decide +kernel
theorem d_X4_copyThings_109 : decode cX4_copyThings 109 = .ok (.iinc 2 1, 3) := by decide +kernel
theorem d_X4_copyThings_112 : decode cX4_copyThings 112 = .ok (.goto (-24), 3) := by decide +kernel
theorem d_X4_copyThings_115 : decode cX4_copyThings 115 = .ok (.iconst 0, 1) := by decide +kernel
theorem d_X4_copyThings_116 : decode cX4_copyThings 116 = .ok (.istore_n 2, 1) := by decide +kernel
theorem d_X4_copyThings_117 : decode cX4_copyThings 117 = .ok (.iload_n 2, 1) := by decide +kernel
theorem d_X4_copyThings_118 : decode cX4_copyThings 118 = .ok (.bipush 6, 2) := by decide +kernel
theorem d_X4_copyThings_120 : decode cX4_copyThings 120 = .ok (.if_icmp .ge 24, 3) := by decide +kernel
theorem d_X4_copyThings_123 : decode cX4_copyThings 123 = .ok (.aload_n 0, 1) := by decide +kernel
theorem d_X4_copyThings_124 : decode cX4_copyThings 124 = .ok (.getfield 70, 3) := by decide +kernel
theorem d_X4_copyThings_127 : decode cX4_copyThings 127 = .ok (.iload_n 2, 1) := by decide +kernel
theorem d_X4_copyThings_128 : decode cX4_copyThings 128 = .ok (.aaload, 1) := by decide +kernel
theorem d_X4_copyThings_129 : decode cX4_copyThings 129 = .ok (.aload_n 1, 1) := by decide +kernel
theorem d_X4_copyThings_130 : decode cX4_copyThings 130 = .ok (.getfield 70, 3) := by decide +kernel
theorem d_X4_copyThings_133 : decode cX4_copyThings 133 = .ok (.iload_n 2, 1) := by decide +kernel
theorem d_X4_copyThings_134 : decode cX4_copyThings 134 = .ok (.aaload, 1) := by decide +kernel
theorem d_X4_copyThings_135 : decode cX4_copyThings 135 = .ok (.invokevirtual 115, 3) := by decide +kernel
theorem d_X4_copyThings_138 : decode cX4_copyThings 138 = .ok (.iinc 2 1, 3) := by decide +kernel
theorem d_X4_copyThings_141 : decode cX4_copyThings 141 = .ok (.goto (-24), 3) := by decide +kernel
theorem d_X4_copyThings_144 : decode cX4_copyThings 144 = .ok (.iconst 0, 1) := by decide +kernel
theorem d_X4_copyThings_145 : decode cX4_copyThings 145 = .ok (.istore_n 2, 1) := by decide +kernel
theorem d_X4_copyThings_146 : decode cX4_copyThings 146 = .ok (.iload_n 2, 1) := by decide +kernel
theorem d_X4_copyThings_147 : decode cX4_copyThings 147 = .ok (.bipush 8, 2) := by decide +kernel
theorem d_X4_copyThings_149 : decode cX4_copyThings 149 = .ok (.if_icmp .ge 24, 3) := by decide +kernel
theorem d_X4_copyThings_152 : decode cX4_copyThings 152 = .ok (.aload_n 0, 1) := by decide +kernel
theorem d_X4_copyThings_153 : decode cX4_copyThings 153 = .ok (.getfield 76, 3) := by decide +kernel
theorem d_X4_copyThings_156 : decode cX4_copyThings 156 = .ok (.iload_n 2, 1) := by decide +kernel
theorem d_X4_copyThings_157 : decode cX4_copyThings 157 = .ok (.aaload, 1) := by decide +kernel
theorem d_X4_copyThings_158 : decode cX4_copyThings 158 = .ok (.aload_n 1, 1) := by decide +kernel
theorem d_X4_copyThings_159 : decode cX4_copyThings 159 = .ok (.getfield 76, 3) := by decide +kernel
theorem d_X4_copyThings_162 : decode cX4_copyThings 162 = .ok (.iload_n 2, 1) := by decide +kernel
theorem d_X4_copyThings_163 : decode cX4_copyThings 163 = .ok (.aaload, 1) := by decide +kernel
theorem d_X4_copyThings_164 : decode cX4_copyThings 164 = .ok (.invokevirtual 118, 3) := by decide +kernel
theorem d_X4_copyThings_167 : decode cX4_copyThings 167 = .ok (.iinc 2 1, 3) := by decide +kernel
theorem d_X4_copyThings_170 : decode cX4_copyThings 170 = .ok (.goto (-24), 3) := by decide +kernel
theorem d_X4_copyThings_173 : decode cX4_copyThings 173 = .ok (.return_, 1) := by decide +kernel
theorem d_X4_isStretch_0 : decode cX4_isStretch 0 = .ok (.iload_n 1, 1) := by decide +kernel
theorem d_X4_isStretch_1 : decode cX4_isStretch 1 = .ok (.iconst 0, 1) := by decide +kernel
theorem d_X4_isStretch_2 : decode cX4_isStretch 2 = .ok (.aload_n 0, 1) := by decide +kernel
theorem d_X4_isStretch_3 : decode cX4_isStretch 3 = .ok (.getfield 15, 3) := by decide +kernel
theorem d_X4_isStretch_6 : decode cX4_isStretch 6 = .ok (.iconst 1, 1) := by decide +kernel
theorem d_X4_isStretch_7 : decode cX4_isStretch 7 = .ok (.isub, 1) := by decide +kernel
theorem d_X4_isStretch_8 : decode cX4_isStretch 8 = .ok (.invokestatic 121, 3) := by decide +kernel
theorem d_X4_isStretch_11 : decode cX4_isStretch 11 = .ok (.ireturn, 1) := by decide +kernel
theorem d_X4_isLanding_0 : decode cX4_isLanding 0 = .ok (.iload_n 1, 1) := by decide +kernel
theorem d_X4_isLanding_1 : decode cX4_isLanding 1 = .ok (.iconst 0, 1) := by decide +kernel
theorem d_X4_isLanding_2 : decode cX4_isLanding 2 = .ok (.aload_n 0, 1) := by decide +kernel
theorem d_X4_isLanding_3 : decode cX4_isLanding 3 = .ok (.getfield 15, 3) := by decide +kernel
theorem d_X4_isLanding_6 : decode cX4_isLanding 6 = .ok (.invokestatic 121, 3) := by decide +kernel
theorem d_X4_isLanding_9 : decode cX4_isLanding 9 = .ok (.ireturn, 1) := by decide +kernel
theorem d_X4_isBoat_0 : decode cX4_isBoat 0 = .ok (.iload_n 1, 1) := by decide +kernel
theorem d_X4_isBoat_1 : decode cX4_isBoat 1 = .ok (.iconst 0, 1) := by decide +kernel
theorem d_X4_isBoat_2 : decode cX4_isBoat 2 = .ok (.aload_n 0, 1) := by decide +kernel
theorem d_X4_isBoat_3 : decode cX4_isBoat 3 = .ok (.getfield 18, 3) := by decide +kernel
theorem d_X4_isBoat_6 : decode cX4_isBoat 6 = .ok (.iconst 1, 1) := by decide +kernel
theorem d_X4_isBoat_7 : decode cX4_isBoat 7 = .ok (.isub, 1) := by decide +kernel
theorem d_X4_isBoat_8 : decode cX4_isBoat 8 = .ok (.invokestatic 121, 3) := by decide +kernel
theorem d_X4_isBoat_11 : decode cX4_isBoat 11 = .ok (.ireturn, 1) := by decide +kernel
theorem d_X4_isBale_0 : decode cX4_isBale 0 = .ok (.iload_n 1, 1) := by decide +kernel
theorem d_X4_isBale_1 : decode cX4_isBale 1 = .ok (.iconst 0, 1) := by decide +kernel
theorem d_X4_isBale_2 : decode cX4_isBale 2 = .ok (.aload_n 0, 1) := by decide +kernel
theorem d_X4_isBale_3 : decode cX4_isBale 3 = .ok (.getfield 21, 3) := by decide +kernel
theorem d_X4_isBale_6 : decode cX4_isBale 6 = .ok (.iconst 1, 1) := by decide +kernel
theorem d_X4_isBale_7 : decode cX4_isBale 7 = .ok (.isub, 1) := by decide +kernel
theorem d_X4_isBale_8 : decode cX4_isBale 8 = .ok (.invokestatic 121, 3) := by decide +kernel
theorem d_X4_isBale_11 : decode cX4_isBale 11 = .ok (.ireturn, 1) := by decide +kernel
theorem d_X4_isWay_0 : decode cX4_isWay 0 = .ok (.aload_n 0, 1) := by decide +kernel
theorem d_X4_isWay_1 : decode cX4_isWay 1 = .ok (.iload_n 1, 1) := by decide +kernel
theorem d_X4_isWay_2 : decode cX4_isWay 2 = .ok (.invokevirtual 125, 3) := by decide +kernel
theorem d_X4_isWay_5 : decode cX4_isWay 5 = .ok (.ifCond .eq 20, 3) := by decide +kernel
theorem d_X4_isWay_8 : decode cX4_isWay 8 = .ok (.aload_n 0, 1) := by decide +kernel
theorem d_X4_isWay_9 : decode cX4_isWay 9 = .ok (.iload_n 2, 1) := by decide +kernel
theorem d_X4_isWay_10 : decode cX4_isWay 10 = .ok (.invokevirtual 125, 3) := by decide +kernel
theorem d_X4_isWay_13 : decode cX4_isWay 13 = .ok (.ifCond .eq 12, 3) := by decide +kernel
theorem d_X4_isWay_16 : decode cX4_isWay 16 = .ok (.iload_n 1, 1) := by decide +kernel
theorem d_X4_isWay_17 : decode cX4_isWay 17 = .ok (.iload_n 2, 1) := by decide +kernel
theorem d_X4_isWay_18 : decode cX4_isWay 18 = .ok (.if_icmp .eq 7, 3) := by decide +kernel
theorem d_X4_isWay_21 : decode cX4_isWay 21 = .ok (.iconst 1, 1) := by decide +kernel
theorem d_X4_isWay_22 : decode cX4_isWay 22 = .ok (.goto 4, 3) := by decide +kernel
theorem d_X4_isWay_25 : decode cX4_isWay 25 = .ok (.iconst 0, 1) := by decide +kernel
theorem d_X4_isWay_26 : decode cX4_isWay 26 = .ok (.ireturn, 1) := by decide +kernel
theorem d_X4_today_0 : decode cX4_today 0 = .ok (.aload_n 0, 1) := by decide +kernel
theorem d_X4_today_1 : decode cX4_today 1 = .ok (.getfield 9, 3) := by decide +kernel
theorem d_X4_today_4 : decode cX4_today 4 = .ok (.bipush 96, 2) := by decide +kernel
theorem d_X4_today_6 : decode cX4_today 6 = .ok (.idiv, 1) := by decide +kernel
theorem d_X4_today_7 : decode cX4_today 7 = .ok (.ireturn, 1) := by decide +kernel
theorem d_X4_isNight_0 : decode cX4_isNight 0 = .ok (.aload_n 0, 1) := by decide +kernel
theorem d_X4_isNight_1 : decode cX4_isNight 1 = .ok (.getfield 9, 3) := by decide +kernel
theorem d_X4_isNight_4 : decode cX4_isNight 4 = .ok (.bipush 96, 2) := by decide +kernel
theorem d_X4_isNight_6 : decode cX4_isNight 6 = .ok (.irem, 1) := by decide +kernel
theorem d_X4_isNight_7 : decode cX4_isNight 7 = .ok (.bipush 24, 2) := by decide +kernel
theorem d_X4_isNight_9 : decode cX4_isNight 9 = .ok (.bipush 71, 2) := by decide +kernel
theorem d_X4_isNight_11 : decode cX4_isNight 11 = .ok (.invokestatic 121, 3) := by decide +kernel
theorem d_X4_isNight_14 : decode cX4_isNight 14 = .ok (.ifCond .ne 7, 3) := by decide +kernel
theorem d_X4_isNight_17 : decode cX4_isNight 17 = .ok (.iconst 1, 1) := by decide +kernel
theorem d_X4_isNight_18 : decode cX4_isNight 18 = .ok (.goto 4, 3) := by decide +kernel
theorem d_X4_isNight_21 : decode cX4_isNight 21 = .ok (.iconst 0, 1) := by decide +kernel
theorem d_X4_isNight_22 : decode cX4_isNight 22 = .ok (.ireturn, 1) := by decide +kernel
theorem d_X4_tellHeight_0 : decode cX4_tellHeight 0 = .ok (.aload_n 0, 1) := by decide +kernel
theorem d_X4_tellHeight_1 : decode cX4_tellHeight 1 = .ok (.getfield 36, 3) := by decide +kernel
theorem d_X4_tellHeight_4 : decode cX4_tellHeight 4 = .ok (.iload_n 1, 1) := by decide +kernel
theorem d_X4_tellHeight_5 : decode cX4_tellHeight 5 = .ok (.iaload, 1) := by decide +kernel
theorem d_X4_tellHeight_6 : decode cX4_tellHeight 6 = .ok (.sipush (-1000), 3) := by decide +kernel
theorem d_X4_tellHeight_9 : decode cX4_tellHeight 9 = .ok (.if_icmp .ne 13, 3) := by decide +kernel
theorem d_X4_tellHeight_12 : decode cX4_tellHeight 12 = .ok (.aload_n 0, 1) := by decide +kernel
theorem d_X4_tellHeight_13 : decode cX4_tellHeight 13 = .ok (.dup, 1) := by decide +kernel
theorem d_X4_tellHeight_14 : decode cX4_tellHeight 14 = .ok (.getfield 30, 3) := by decide +kernel
theorem d_X4_tellHeight_17 : decode cX4_tellHeight 17 = .ok (.iconst 1, 1) := by decide +kernel
theorem d_X4_tellHeight_18 : decode cX4_tellHeight 18 = .ok (.iadd, 1) := by decide +kernel
theorem d_X4_tellHeight_19 : decode cX4_tellHeight 19 = .ok (.putfield 30, 3) := by decide +kernel
theorem d_X4_tellHeight_22 : decode cX4_tellHeight 22 = .ok (.aload_n 0, 1) := by decide +kernel
theorem d_X4_tellHeight_23 : decode cX4_tellHeight 23 = .ok (.getfield 36, 3) := by decide +kernel
theorem d_X4_tellHeight_26 : decode cX4_tellHeight 26 = .ok (.iload_n 1, 1) := by decide +kernel
theorem d_X4_tellHeight_27 : decode cX4_tellHeight 27 = .ok (.iload_n 2, 1) := by decide +kernel
theorem d_X4_tellHeight_28 : decode cX4_tellHeight 28 = .ok (.iastore, 1) := by decide +kernel
theorem d_X4_tellHeight_29 : decode cX4_tellHeight 29 = .ok (.return_, 1) := by decide +kernel
theorem d_X4_heightOn_0 : decode cX4_heightOn 0 = .ok (.iload_n 1, 1) := by decide +kernel
theorem d_X4_heightOn_1 : decode cX4_heightOn 1 = .ok (.istore_n 2, 1) := by decide +kernel
theorem d_X4_heightOn_2 : decode cX4_heightOn 2 = .ok (.iload_n 2, 1) := by decide +kernel
theorem d_X4_heightOn_3 : decode cX4_heightOn 3 = .ok (.ifCond .lt 21, 3) := by decide +kernel
theorem d_X4_heightOn_6 : decode cX4_heightOn 6 = .ok (.aload_n 0, 1) := by decide +kernel
theorem d_X4_heightOn_7 : decode cX4_heightOn 7 = .ok (.getfield 36, 3) := by decide +kernel
theorem d_X4_heightOn_10 : decode cX4_heightOn 10 = .ok (.iload_n 2, 1) := by decide +kernel
theorem d_X4_heightOn_11 : decode cX4_heightOn 11 = .ok (.iaload, 1) := by decide +kernel
theorem d_X4_heightOn_12 : decode cX4_heightOn 12 = .ok (.sipush (-1000), 3) := by decide +kernel
theorem d_X4_heightOn_15 : decode cX4_heightOn 15 = .ok (.if_icmp .ne 9, 3) := by decide +kernel
theorem d_X4_heightOn_18 : decode cX4_heightOn 18 = .ok (.iinc 2 (-1), 3) := by decide +kernel
theorem d_X4_heightOn_21 : decode cX4_heightOn 21 = .ok (.goto (-19), 3) := by decide +kernel
theorem d_X4_heightOn_24 : decode cX4_heightOn 24 = .ok (.iload_n 1, 1) := by decide +kernel
theorem d_X4_heightOn_25 : decode cX4_heightOn 25 = .ok (.istore_n 3, 1) := by decide +kernel
theorem d_X4_heightOn_26 : decode cX4_heightOn 26 = .ok (.iload_n 3, 1) := by decide +kernel
theorem d_X4_heightOn_27 : decode cX4_heightOn 27 = .ok (.bipush 100, 2) := by decide +kernel
theorem d_X4_heightOn_29 : decode cX4_heightOn 29 = .ok (.if_icmp .ge 21, 3) := by decide +kernel
theorem d_X4_heightOn_32 : decode cX4_heightOn 32 = .ok (.aload_n 0, 1) := by decide +kernel
theorem d_X4_heightOn_33 : decode cX4_heightOn 33 = .ok (.getfield 36, 3) := by decide +kernel
theorem d_X4_heightOn_36 : decode cX4_heightOn 36 = .ok (.iload_n 3, 1) := by decide +kernel
theorem d_X4_heightOn_37 : decode cX4_heightOn 37 = .ok (.iaload, 1) := by decide +kernel
theorem d_X4_heightOn_38 : decode cX4_heightOn 38 = .ok (.sipush (-1000), 3) := by decide +kernel
theorem d_X4_heightOn_41 : decode cX4_heightOn 41 = .ok (.if_icmp .ne 9, 3) := by decide +kernel
theorem d_X4_heightOn_44 : decode cX4_heightOn 44 = .ok (.iinc 3 1, 3) := by decide +kernel
theorem d_X4_heightOn_47 : decode cX4_heightOn 47 = .ok (.goto (-21), 3) := by decide +kernel
theorem d_X4_heightOn_50 : decode cX4_heightOn 50 = .ok (.iload_n 2, 1) := by decide +kernel
theorem d_X4_heightOn_51 : decode cX4_heightOn 51 = .ok (.ifCond .ge 20, 3) := by decide +kernel
theorem d_X4_heightOn_54 : decode cX4_heightOn 54 = .ok (.iload_n 3, 1) := by decide +kernel
theorem d_X4_heightOn_55 : decode cX4_heightOn 55 = .ok (.bipush 100, 2) := by decide +kernel
theorem d_X4_heightOn_57 : decode cX4_heightOn 57 = .ok (.if_icmp .ge 12, 3) := by decide +kernel
theorem d_X4_heightOn_60 : decode cX4_heightOn 60 = .ok (.aload_n 0, 1) := by decide +kernel
theorem d_X4_heightOn_61 : decode cX4_heightOn 61 = .ok (.getfield 36, 3) := by decide +kernel
theorem d_X4_heightOn_64 : decode cX4_heightOn 64 = .ok (.iload_n 3, 1) := by decide +kernel
theorem d_X4_heightOn_65 : decode cX4_heightOn 65 = .ok (.iaload, 1) := by decide +kernel
theorem d_X4_heightOn_66 : decode cX4_heightOn 66 = .ok (.goto 4, 3) := by decide +kernel
theorem d_X4_heightOn_69 : decode cX4_heightOn 69 = .ok (.iconst 0, 1) := by decide +kernel
theorem d_X4_heightOn_70 : decode cX4_heightOn 70 = .ok (.ireturn, 1) := by decide +kernel
theorem d_X4_heightOn_71 : decode cX4_heightOn 71 = .ok (.iload_n 3, 1) := by decide +kernel
theorem d_X4_heightOn_72 : decode cX4_heightOn 72 = .ok (.bipush 100, 2) := by decide +kernel
theorem d_X4_heightOn_74 : decode cX4_heightOn 74 = .ok (.if_icmp .ge 8, 3) := by decide +kernel
theorem d_X4_heightOn_77 : decode cX4_heightOn 77 = .ok (.iload_n 3, 1) := by decide +kernel
theorem d_X4_heightOn_78 : decode cX4_heightOn 78 = .ok (.iload_n 2, 1) := by decide +kernel
theorem d_X4_heightOn_79 : decode cX4_heightOn 79 = .ok (.if_icmp .ne 10, 3) := by decide +kernel
theorem d_X4_heightOn_82 : decode cX4_heightOn 82 = .ok (.aload_n 0, 1) := by decide +kernel
theorem d_X4_heightOn_83 : decode cX4_heightOn 83 = .ok (.getfield 36, 3) := by decide +kernel
theorem d_X4_heightOn_86 : decode cX4_heightOn 86 = .ok (.iload_n 2, 1) := by decide +kernel
theorem d_X4_heightOn_87 : decode cX4_heightOn 87 = .ok (.iaload, 1) := by decide +kernel
theorem d_X4_heightOn_88 : decode cX4_heightOn 88 = .ok (.ireturn, 1) := by decide +kernel
theorem d_X4_heightOn_89 : decode cX4_heightOn 89 = .ok (.aload_n 0, 1) := by decide +kernel
theorem d_X4_heightOn_90 : decode cX4_heightOn 90 = .ok (.getfield 36, 3) := by decide +kernel
theorem d_X4_heightOn_93 : decode cX4_heightOn 93 = .ok (.iload_n 3, 1) := by decide +kernel
theorem d_X4_heightOn_94 : decode cX4_heightOn 94 = .ok (.iaload, 1) := by decide +kernel
theorem d_X4_heightOn_95 : decode cX4_heightOn 95 = .ok (.aload_n 0, 1) := by decide +kernel
theorem d_X4_heightOn_96 : decode cX4_heightOn 96 = .ok (.getfield 36, 3) := by decide +kernel
theorem d_X4_heightOn_99 : decode cX4_heightOn 99 = .ok (.iload_n 2, 1) := by decide +kernel
theorem d_X4_heightOn_100 : decode cX4_heightOn 100 = .ok (.iaload, 1) := by decide +kernel
theorem d_X4_heightOn_101 : decode cX4_heightOn 101 = .ok (.isub, 1) := by decide +kernel
theorem d_X4_heightOn_102 : decode cX4_heightOn 102 = .ok (.istore 4, 2) := by decide +kernel
theorem d_X4_heightOn_104 : decode cX4_heightOn 104 = .ok (.aload_n 0, 1) := by decide +kernel
theorem d_X4_heightOn_105 : decode cX4_heightOn 105 = .ok (.getfield 36, 3) := by decide +kernel
theorem d_X4_heightOn_108 : decode cX4_heightOn 108 = .ok (.iload_n 2, 1) := by decide +kernel
theorem d_X4_heightOn_109 : decode cX4_heightOn 109 = .ok (.iaload, 1) := by decide +kernel
theorem d_X4_heightOn_110 : decode cX4_heightOn 110 = .ok (.iload 4, 2) := by decide +kernel
theorem d_X4_heightOn_112 : decode cX4_heightOn 112 = .ok (.iload_n 1, 1) := by decide +kernel
theorem d_X4_heightOn_113 : decode cX4_heightOn 113 = .ok (.iload_n 2, 1) := by decide +kernel
theorem d_X4_heightOn_114 : decode cX4_heightOn 114 = .ok (.isub, 1) := by decide +kernel
theorem d_X4_heightOn_115 : decode cX4_heightOn 115 = .ok (.imul, 1) := by decide +kernel
theorem d_X4_heightOn_116 : decode cX4_heightOn 116 = .ok (.iload_n 3, 1) := by decide +kernel
theorem d_X4_heightOn_117 : decode cX4_heightOn 117 = .ok (.iload_n 2, 1) := by decide +kernel
theorem d_X4_heightOn_118 : decode cX4_heightOn 118 = .ok (.isub, 1) := by decide +kernel
theorem d_X4_heightOn_119 : decode cX4_heightOn 119 = .ok (.idiv, 1) := by decide +kernel
theorem d_X4_heightOn_120 : decode cX4_heightOn 120 = .ok (.iadd, 1) := by decide +kernel
theorem d_X4_heightOn_121 : decode cX4_heightOn 121 = .ok (.ireturn, 1) := by decide +kernel
theorem d_X4_waterOn_0 : decode cX4_waterOn 0 = .ok (.aload_n 0, 1) := by decide +kernel
theorem d_X4_waterOn_1 : decode cX4_waterOn 1 = .ok (.getfield 46, 3) := by decide +kernel
theorem d_X4_waterOn_4 : decode cX4_waterOn 4 = .ok (.iload_n 1, 1) := by decide +kernel
theorem d_X4_waterOn_5 : decode cX4_waterOn 5 = .ok (.aaload, 1) := by decide +kernel
theorem d_X4_waterOn_6 : decode cX4_waterOn 6 = .ok (.astore_n 3, 1) := by decide +kernel
theorem d_X4_waterOn_7 : decode cX4_waterOn 7 = .ok (.aload_n 3, 1) := by decide +kernel
theorem d_X4_waterOn_8 : decode cX4_waterOn 8 = .ok (.getfield 129, 3) := by decide +kernel
theorem d_X4_waterOn_11 : decode cX4_waterOn 11 = .ok (.iconst 4, 1) := by decide +kernel
theorem d_X4_waterOn_12 : decode cX4_waterOn 12 = .ok (.if_icmp .ne 8, 3) := by decide +kernel
theorem d_X4_waterOn_15 : decode cX4_waterOn 15 = .ok (.aload_n 3, 1) := by decide +kernel
theorem d_X4_waterOn_16 : decode cX4_waterOn 16 = .ok (.getfield 132, 3) := by decide +kernel
theorem d_X4_waterOn_19 : decode cX4_waterOn 19 = .ok (.ireturn, 1) := by decide +kernel
theorem d_X4_waterOn_20 : decode cX4_waterOn 20 = .ok (.aload_n 3, 1) := by decide +kernel
theorem d_X4_waterOn_21 : decode cX4_waterOn 21 = .ok (.getfield 129, 3) := by decide +kernel
theorem d_X4_waterOn_24 : decode cX4_waterOn 24 = .ok (.iconst 5, 1) := by decide +kernel
theorem d_X4_waterOn_25 : decode cX4_waterOn 25 = .ok (.if_icmp .ne 14, 3) := by decide +kernel
theorem d_X4_waterOn_28 : decode cX4_waterOn 28 = .ok (.aload_n 0, 1) := by decide +kernel
theorem d_X4_waterOn_29 : decode cX4_waterOn 29 = .ok (.getfield 40, 3) := by decide +kernel
theorem d_X4_waterOn_32 : decode cX4_waterOn 32 = .ok (.iload_n 2, 1) := by decide +kernel
theorem d_X4_waterOn_33 : decode cX4_waterOn 33 = .ok (.baload, 1) := by decide +kernel
theorem d_X4_waterOn_34 : decode cX4_waterOn 34 = .ok (.ifCond .eq 5, 3) := by decide +kernel
theorem d_X4_waterOn_37 : decode cX4_waterOn 37 = .ok (.iconst 0, 1) := by decide +kernel
theorem d_X4_waterOn_38 : decode cX4_waterOn 38 = .ok (.ireturn, 1) := by decide +kernel
theorem d_X4_waterOn_39 : decode cX4_waterOn 39 = .ok (.aload_n 3, 1) := by decide +kernel
theorem d_X4_waterOn_40 : decode cX4_waterOn 40 = .ok (.getfield 132, 3) := by decide +kernel
theorem d_X4_waterOn_43 : decode cX4_waterOn 43 = .ok (.aload_n 0, 1) := by decide +kernel
theorem d_X4_waterOn_44 : decode cX4_waterOn 44 = .ok (.iload_n 2, 1) := by decide +kernel
theorem d_X4_waterOn_45 : decode cX4_waterOn 45 = .ok (.invokevirtual 135, 3) := by decide +kernel
theorem d_X4_waterOn_48 : decode cX4_waterOn 48 = .ok (.iadd, 1) := by decide +kernel
theorem d_X4_waterOn_49 : decode cX4_waterOn 49 = .ok (.aload_n 3, 1) := by decide +kernel
theorem d_X4_waterOn_50 : decode cX4_waterOn 50 = .ok (.iload_n 2, 1) := by decide +kernel
theorem d_X4_waterOn_51 : decode cX4_waterOn 51 = .ok (.invokevirtual 139, 3) := by decide +kernel
theorem d_X4_waterOn_54 : decode cX4_waterOn 54 = .ok (.isub, 1) := by decide +kernel
theorem d_X4_waterOn_55 : decode cX4_waterOn 55 = .ok (.ireturn, 1) := by decide +kernel
theorem d_X4_longNow_0 : decode cX4_longNow 0 = .ok (.aload_n 0, 1) := by decide +kernel
theorem d_X4_longNow_1 : decode cX4_longNow 1 = .ok (.invokevirtual 142, 3) := by decide +kernel
theorem d_X4_longNow_4 : decode cX4_longNow 4 = .ok (.ifCond .eq 32, 3) := by decide +kernel
theorem d_X4_longNow_7 : decode cX4_longNow 7 = .ok (.aload_n 0, 1) := by decide +kernel
theorem d_X4_longNow_8 : decode cX4_longNow 8 = .ok (.getfield 46, 3) := by decide +kernel
theorem d_X4_longNow_11 : decode cX4_longNow 11 = .ok (.iload_n 1, 1) := by decide +kernel
theorem d_X4_longNow_12 : decode cX4_longNow 12 = .ok (.aaload, 1) := by decide +kernel
theorem d_X4_longNow_13 : decode cX4_longNow 13 = .ok (.getfield 129, 3) := by decide +kernel
theorem d_X4_longNow_16 : decode cX4_longNow 16 = .ok (.iconst 3, 1) := by decide +kernel
theorem d_X4_longNow_17 : decode cX4_longNow 17 = .ok (.if_icmp .ne 19, 3) := by decide +kernel
theorem d_X4_longNow_20 : decode cX4_longNow 20 = .ok (.aload_n 0, 1) := by decide +kernel
theorem d_X4_longNow_21 : decode cX4_longNow 21 = .ok (.getfield 46, 3) := by decide +kernel
theorem d_X4_longNow_24 : decode cX4_longNow 24 = .ok (.iload_n 1, 1) := by decide +kernel
theorem d_X4_longNow_25 : decode cX4_longNow 25 = .ok (.aaload, 1) := by decide +kernel
theorem d_X4_longNow_26 : decode cX4_longNow 26 = .ok (.getfield 146, 3) := by decide +kernel
theorem d_X4_longNow_29 : decode cX4_longNow 29 = .ok (.ifCond .ne 7, 3) := by decide +kernel
theorem d_X4_longNow_32 : decode cX4_longNow 32 = .ok (.iconst 1, 1) := by decide +kernel
theorem d_X4_longNow_33 : decode cX4_longNow 33 = .ok (.goto 4, 3) := by decide +kernel
theorem d_X4_longNow_36 : decode cX4_longNow 36 = .ok (.iconst 0, 1) := by decide +kernel
theorem d_X4_longNow_37 : decode cX4_longNow 37 = .ok (.istore_n 2, 1) := by decide +kernel
theorem d_X4_longNow_38 : decode cX4_longNow 38 = .ok (.aload_n 0, 1) := by decide +kernel
theorem d_X4_longNow_39 : decode cX4_longNow 39 = .ok (.iload_n 1, 1) := by decide +kernel
theorem d_X4_longNow_40 : decode cX4_longNow 40 = .ok (.invokevirtual 150, 3) := by decide +kernel
theorem d_X4_longNow_43 : decode cX4_longNow 43 = .ok (.iload_n 2, 1) := by decide +kernel
theorem d_X4_longNow_44 : decode cX4_longNow 44 = .ok (.ifCond .eq 8, 3) := by decide +kernel
theorem d_X4_longNow_47 : decode cX4_longNow 47 = .ok (.bipush 8, 2) := by decide +kernel
theorem d_X4_longNow_49 : decode cX4_longNow 49 = .ok (.goto 4, 3) := by decide +kernel
theorem d_X4_longNow_52 : decode cX4_longNow 52 = .ok (.iconst 0, 1) := by decide +kernel
theorem d_X4_longNow_53 : decode cX4_longNow 53 = .ok (.iadd, 1) := by decide +kernel
theorem d_X4_longNow_54 : decode cX4_longNow 54 = .ok (.ireturn, 1) := by decide +kernel
theorem d_X4_longByDaylight_0 : decode cX4_longByDaylight 0 = .ok (.aload_n 0, 1) := by decide +kernel
theorem d_X4_longByDaylight_1 : decode cX4_longByDaylight 1 = .ok (.getfield 46, 3) := by decide +kernel
theorem d_X4_longByDaylight_4 : decode cX4_longByDaylight 4 = .ok (.iload_n 1, 1) := by decide +kernel
theorem d_X4_longByDaylight_5 : decode cX4_longByDaylight 5 = .ok (.aaload, 1) := by decide +kernel
theorem d_X4_longByDaylight_6 : decode cX4_longByDaylight 6 = .ok (.astore_n 2, 1) := by decide +kernel
theorem d_X4_longByDaylight_7 : decode cX4_longByDaylight 7 = .ok (.aload_n 2, 1) := by decide +kernel
theorem d_X4_longByDaylight_8 : decode cX4_longByDaylight 8 = .ok (.getfield 129, 3) := by decide +kernel
theorem d_X4_longByDaylight_11 : decode cX4_longByDaylight 11 = .ok (.iconst 4, 1) := by decide +kernel
theorem d_X4_longByDaylight_12 : decode cX4_longByDaylight 12 = .ok (.if_icmp .ne 10, 3) := by decide +kernel
theorem d_X4_longByDaylight_15 : decode cX4_longByDaylight 15 = .ok (.aload_n 2, 1) := by decide +kernel
theorem d_X4_longByDaylight_16 : decode cX4_longByDaylight 16 = .ok (.getfield 153, 3) := by decide +kernel
theorem d_X4_longByDaylight_19 : decode cX4_longByDaylight 19 = .ok (.iconst 4, 1) := by decide +kernel
theorem d_X4_longByDaylight_20 : decode cX4_longByDaylight 20 = .ok (.iadd, 1) := by decide +kernel
theorem d_X4_longByDaylight_21 : decode cX4_longByDaylight 21 = .ok (.ireturn, 1) := by decide +kernel
theorem d_X4_longByDaylight_22 : decode cX4_longByDaylight 22 = .ok (.aload_n 2, 1) := by decide +kernel
theorem d_X4_longByDaylight_23 : decode cX4_longByDaylight 23 = .ok (.getfield 129, 3) := by decide +kernel
theorem d_X4_longByDaylight_26 : decode cX4_longByDaylight 26 = .ok (.iconst 2, 1) := by decide +kernel
theorem d_X4_longByDaylight_27 : decode cX4_longByDaylight 27 = .ok (.if_icmp .ne 25, 3) := by decide +kernel
theorem d_X4_longByDaylight_30 : decode cX4_longByDaylight 30 = .ok (.aload_n 0, 1) := by decide +kernel
theorem d_X4_longByDaylight_31 : decode cX4_longByDaylight 31 = .ok (.aload_n 0, 1) := by decide +kernel
theorem d_X4_longByDaylight_32 : decode cX4_longByDaylight 32 = .ok (.invokevirtual 156, 3) := by decide +kernel
theorem d_X4_longByDaylight_35 : decode cX4_longByDaylight 35 = .ok (.invokevirtual 135, 3) := by decide +kernel
theorem d_X4_longByDaylight_38 : decode cX4_longByDaylight 38 = .ok (.bipush 20, 2) := by decide +kernel
theorem d_X4_longByDaylight_40 : decode cX4_longByDaylight 40 = .ok (.if_icmp .lt 12, 3) := by decide +kernel
theorem d_X4_longByDaylight_43 : decode cX4_longByDaylight 43 = .ok (.aload_n 2, 1) := by decide +kernel
theorem d_X4_longByDaylight_44 : decode cX4_longByDaylight 44 = .ok (.getfield 153, 3) := by decide +kernel
theorem d_X4_longByDaylight_47 : decode cX4_longByDaylight 47 = .ok (.iconst 1, 1) := by decide +kernel
theorem d_X4_longByDaylight_48 : decode cX4_longByDaylight 48 = .ok (.iadd, 1) := by decide +kernel
theorem d_X4_longByDaylight_49 : decode cX4_longByDaylight 49 = .ok (.iconst 2, 1) := by decide +kernel
theorem d_X4_longByDaylight_50 : decode cX4_longByDaylight 50 = .ok (.idiv, 1) := by decide +kernel
theorem d_X4_longByDaylight_51 : decode cX4_longByDaylight 51 = .ok (.ireturn, 1) := by decide +kernel
theorem d_X4_longByDaylight_52 : decode cX4_longByDaylight 52 = .ok (.aload_n 2, 1) := by decide +kernel
theorem d_X4_longByDaylight_53 : decode cX4_longByDaylight 53 = .ok (.getfield 153, 3) := by decide +kernel
theorem d_X4_longByDaylight_56 : decode cX4_longByDaylight 56 = .ok (.ireturn, 1) := by decide +kernel
theorem d_X4_whyNot_0 : decode cX4_whyNot 0 = .ok (.aload_n 1, 1) := by decide +kernel
theorem d_X4_whyNot_1 : decode cX4_whyNot 1 = .ok (.getfield 160, 3) := by decide +kernel
theorem d_X4_whyNot_4 : decode cX4_whyNot 4 = .ok (.ifCond .eq 5, 3) := by decide +kernel
theorem d_X4_whyNot_7 : decode cX4_whyNot 7 = .ok (.iconst 1, 1) := by decide +kernel
theorem d_X4_whyNot_8 : decode cX4_whyNot 8 = .ok (.ireturn, 1) := by decide +kernel
theorem d_X4_whyNot_9 : decode cX4_whyNot 9 = .ok (.aload_n 1, 1) := by decide +kernel
theorem d_X4_whyNot_10 : decode cX4_whyNot 10 = .ok (.iload_n 2, 1) := by decide +kernel
theorem d_X4_whyNot_11 : decode cX4_whyNot 11 = .ok (.invokevirtual 163, 3) := by decide +kernel
theorem d_X4_whyNot_14 : decode cX4_whyNot 14 = .ok (.istore_n 3, 1) := by decide +kernel
theorem d_X4_whyNot_15 : decode cX4_whyNot 15 = .ok (.aload_n 0, 1) := by decide +kernel
theorem d_X4_whyNot_16 : decode cX4_whyNot 16 = .ok (.iload_n 3, 1) := by decide +kernel
theorem d_X4_whyNot_17 : decode cX4_whyNot 17 = .ok (.invokevirtual 167, 3) := by decide +kernel
theorem d_X4_whyNot_20 : decode cX4_whyNot 20 = .ok (.ifCond .ne 5, 3) := by decide +kernel
theorem d_X4_whyNot_23 : decode cX4_whyNot 23 = .ok (.iconst 2, 1) := by decide +kernel
theorem d_X4_whyNot_24 : decode cX4_whyNot 24 = .ok (.ireturn, 1) := by decide +kernel
theorem d_X4_whyNot_25 : decode cX4_whyNot 25 = .ok (.aload_n 1, 1) := by decide +kernel
theorem d_X4_whyNot_26 : decode cX4_whyNot 26 = .ok (.getfield 170, 3) := by decide +kernel
theorem d_X4_whyNot_29 : decode cX4_whyNot 29 = .ok (.iload_n 3, 1) := by decide +kernel
theorem d_X4_whyNot_30 : decode cX4_whyNot 30 = .ok (.invokevirtual 174, 3) := by decide +kernel
theorem d_X4_whyNot_33 : decode cX4_whyNot 33 = .ok (.ifCond .eq 21, 3) := by decide +kernel
theorem d_X4_whyNot_36 : decode cX4_whyNot 36 = .ok (.aload_n 1, 1) := by decide +kernel
theorem d_X4_whyNot_37 : decode cX4_whyNot 37 = .ok (.getfield 170, 3) := by decide +kernel
theorem d_X4_whyNot_40 : decode cX4_whyNot 40 = .ok (.getfield 179, 3) := by decide +kernel
theorem d_X4_whyNot_43 : decode cX4_whyNot 43 = .ok (.iload_n 3, 1) := by decide +kernel
theorem d_X4_whyNot_44 : decode cX4_whyNot 44 = .ok (.iaload, 1) := by decide +kernel
theorem d_X4_whyNot_45 : decode cX4_whyNot 45 = .ok (.aload_n 1, 1) := by decide +kernel
theorem d_X4_whyNot_46 : decode cX4_whyNot 46 = .ok (.invokevirtual 182, 3) := by decide +kernel
theorem d_X4_whyNot_49 : decode cX4_whyNot 49 = .ok (.if_icmp .ge 5, 3) := by decide +kernel
theorem d_X4_whyNot_52 : decode cX4_whyNot 52 = .ok (.iconst 3, 1) := by decide +kernel
theorem d_X4_whyNot_53 : decode cX4_whyNot 53 = .ok (.ireturn, 1) := by decide +kernel
theorem d_X4_whyNot_54 : decode cX4_whyNot 54 = .ok (.aload_n 1, 1) := by decide +kernel
theorem d_X4_whyNot_55 : decode cX4_whyNot 55 = .ok (.getfield 185, 3) := by decide +kernel
theorem d_X4_whyNot_58 : decode cX4_whyNot 58 = .ok (.aload_n 0, 1) := by decide +kernel
theorem d_X4_whyNot_59 : decode cX4_whyNot 59 = .ok (.iload_n 3, 1) := by decide +kernel
theorem d_X4_whyNot_60 : decode cX4_whyNot 60 = .ok (.invokevirtual 188, 3) := by decide +kernel
theorem d_X4_whyNot_63 : decode cX4_whyNot 63 = .ok (.if_icmp .ge 7, 3) := by decide +kernel
theorem d_X4_whyNot_66 : decode cX4_whyNot 66 = .ok (.iconst 4, 1) := by decide +kernel
theorem d_X4_whyNot_67 : decode cX4_whyNot 67 = .ok (.goto 4, 3) := by decide +kernel
theorem d_X4_whyNot_70 : decode cX4_whyNot 70 = .ok (.iconst 0, 1) := by decide +kernel
theorem d_X4_whyNot_71 : decode cX4_whyNot 71 = .ok (.ireturn, 1) := by decide +kernel
theorem d_X4_setOut_0 : decode cX4_setOut 0 = .ok (.aload_n 1, 1) := by decide +kernel
theorem d_X4_setOut_1 : decode cX4_setOut 1 = .ok (.iload_n 2, 1) := by decide +kernel
theorem d_X4_setOut_2 : decode cX4_setOut 2 = .ok (.invokevirtual 163, 3) := by decide +kernel
theorem d_X4_setOut_5 : decode cX4_setOut 5 = .ok (.istore_n 3, 1) := by decide +kernel
theorem d_X4_setOut_6 : decode cX4_setOut 6 = .ok (.aload_n 0, 1) := by decide +kernel
theorem d_X4_setOut_7 : decode cX4_setOut 7 = .ok (.iload_n 3, 1) := by decide +kernel
theorem d_X4_setOut_8 : decode cX4_setOut 8 = .ok (.aload_n 0, 1) := by decide +kernel
theorem d_X4_setOut_9 : decode cX4_setOut 9 = .ok (.invokevirtual 156, 3) := by decide +kernel
theorem d_X4_setOut_12 : decode cX4_setOut 12 = .ok (.invokevirtual 191, 3) := by decide +kernel
theorem d_X4_setOut_15 : decode cX4_setOut 15 = .ok (.istore 4, 2) := by decide +kernel
theorem d_X4_setOut_17 : decode cX4_setOut 17 = .ok (.aload_n 1, 1) := by decide +kernel
theorem d_X4_setOut_18 : decode cX4_setOut 18 = .ok (.getfield 170, 3) := by decide +kernel
theorem d_X4_setOut_21 : decode cX4_setOut 21 = .ok (.iload_n 3, 1) := by decide +kernel
theorem d_X4_setOut_22 : decode cX4_setOut 22 = .ok (.iload 4, 2) := by decide +kernel
theorem d_X4_setOut_24 : decode cX4_setOut 24 = .ok (.aload_n 0, 1) := by decide +kernel
theorem d_X4_setOut_25 : decode cX4_setOut 25 = .ok (.getfield 9, 3) := by decide +kernel
theorem d_X4_setOut_28 : decode cX4_setOut 28 = .ok (.invokevirtual 195, 3) := by decide +kernel
theorem d_X4_setOut_31 : decode cX4_setOut 31 = .ok (.aload_n 1, 1) := by decide +kernel
theorem d_X4_setOut_32 : decode cX4_setOut 32 = .ok (.aload_n 1, 1) := by decide +kernel
theorem d_X4_setOut_33 : decode cX4_setOut 33 = .ok (.getfield 199, 3) := by decide +kernel
theorem d_X4_setOut_36 : decode cX4_setOut 36 = .ok (.putfield 202, 3) := by decide +kernel
theorem d_X4_setOut_39 : decode cX4_setOut 39 = .ok (.aload_n 1, 1) := by decide +kernel
theorem d_X4_setOut_40 : decode cX4_setOut 40 = .ok (.iload_n 3, 1) := by decide +kernel
theorem d_X4_setOut_41 : decode cX4_setOut 41 = .ok (.putfield 199, 3) := by decide +kernel
theorem d_X4_setOut_44 : decode cX4_setOut 44 = .ok (.aload_n 1, 1) := by decide +kernel
theorem d_X4_setOut_45 : decode cX4_setOut 45 = .ok (.invokevirtual 182, 3) := by decide +kernel
theorem d_X4_setOut_48 : decode cX4_setOut 48 = .ok (.iload 4, 2) := by decide +kernel
theorem d_X4_setOut_50 : decode cX4_setOut 50 = .ok (.if_icmp .le 10, 3) := by decide +kernel
theorem d_X4_setOut_53 : decode cX4_setOut 53 = .ok (.aload_n 1, 1) := by decide +kernel
theorem d_X4_setOut_54 : decode cX4_setOut 54 = .ok (.iconst 3, 1) := by decide +kernel
theorem d_X4_setOut_55 : decode cX4_setOut 55 = .ok (.putfield 160, 3) := by decide +kernel
theorem d_X4_setOut_58 : decode cX4_setOut 58 = .ok (.iconst 0, 1) := by decide +kernel
theorem d_X4_setOut_59 : decode cX4_setOut 59 = .ok (.ireturn, 1) := by decide +kernel
theorem d_X4_setOut_60 : decode cX4_setOut 60 = .ok (.aload_n 0, 1) := by decide +kernel
theorem d_X4_setOut_61 : decode cX4_setOut 61 = .ok (.iload_n 3, 1) := by decide +kernel
theorem d_X4_setOut_62 : decode cX4_setOut 62 = .ok (.invokevirtual 188, 3) := by decide +kernel
theorem d_X4_setOut_65 : decode cX4_setOut 65 = .ok (.istore 5, 2) := by decide +kernel
theorem d_X4_setOut_67 : decode cX4_setOut 67 = .ok (.aload_n 1, 1) := by decide +kernel
theorem d_X4_setOut_68 : decode cX4_setOut 68 = .ok (.iload_n 2, 1) := by decide +kernel
theorem d_X4_setOut_69 : decode cX4_setOut 69 = .ok (.ifCond .eq 7, 3) := by decide +kernel
theorem d_X4_setOut_72 : decode cX4_setOut 72 = .ok (.iconst 1, 1) := by decide +kernel
theorem d_X4_setOut_73 : decode cX4_setOut 73 = .ok (.goto 4, 3) := by decide +kernel
theorem d_X4_setOut_76 : decode cX4_setOut 76 = .ok (.iconst 2, 1) := by decide +kernel
theorem d_X4_setOut_77 : decode cX4_setOut 77 = .ok (.putfield 160, 3) := by decide +kernel
theorem d_X4_setOut_80 : decode cX4_setOut 80 = .ok (.aload_n 1, 1) := by decide +kernel
theorem d_X4_setOut_81 : decode cX4_setOut 81 = .ok (.aload_n 0, 1) := by decide +kernel
theorem d_X4_setOut_82 : decode cX4_setOut 82 = .ok (.getfield 9, 3) := by decide +kernel
theorem d_X4_setOut_85 : decode cX4_setOut 85 = .ok (.iload 5, 2) := by decide +kernel
theorem d_X4_setOut_87 : decode cX4_setOut 87 = .ok (.iadd, 1) := by decide +kernel
theorem d_X4_setOut_88 : decode cX4_setOut 88 = .ok (.putfield 205, 3) := by decide +kernel
theorem d_X4_setOut_91 : decode cX4_setOut 91 = .ok (.aload_n 1, 1) := by decide +kernel
theorem d_X4_setOut_92 : decode cX4_setOut 92 = .ok (.dup, 1) := by decide +kernel
theorem d_X4_setOut_93 : decode cX4_setOut 93 = .ok (.getfield 185, 3) := by decide +kernel
theorem d_X4_setOut_96 : decode cX4_setOut 96 = .ok (.iload 5, 2) := by decide +kernel
theorem d_X4_setOut_98 : decode cX4_setOut 98 = .ok (.isub, 1) := by decide +kernel
theorem d_X4_setOut_99 : decode cX4_setOut 99 = .ok (.putfield 185, 3) := by decide +kernel
theorem d_X4_setOut_102 : decode cX4_setOut 102 = .ok (.iload 5, 2) := by decide +kernel
theorem d_X4_setOut_104 : decode cX4_setOut 104 = .ok (.ireturn, 1) := by decide +kernel
theorem d_X4_goOneQuarter_0 : decode cX4_goOneQuarter 0 = .ok (.aload_n 0, 1) := by decide +kernel
theorem d_X4_goOneQuarter_1 : decode cX4_goOneQuarter 1 = .ok (.dup, 1) := by decide +kernel
theorem d_X4_goOneQuarter_2 : decode cX4_goOneQuarter 2 = .ok (.getfield 9, 3) := by decide +kernel
theorem d_X4_goOneQuarter_5 : decode cX4_goOneQuarter 5 = .ok (.iconst 1, 1) := by decide +kernel
theorem d_X4_goOneQuarter_6 : decode cX4_goOneQuarter 6 = .ok (.iadd, 1) := by decide +kernel
theorem d_X4_goOneQuarter_7 : decode cX4_goOneQuarter 7 = .ok (.putfield 9, 3) := by decide +kernel
theorem d_X4_goOneQuarter_10 : decode cX4_goOneQuarter 10 = .ok (.iconst 0, 1) := by decide +kernel
theorem d_X4_goOneQuarter_11 : decode cX4_goOneQuarter 11 = .ok (.istore_n 1, 1) := by decide +kernel
theorem d_X4_goOneQuarter_12 : decode cX4_goOneQuarter 12 = .ok (.iload_n 1, 1) := by decide +kernel
theorem d_X4_goOneQuarter_13 : decode cX4_goOneQuarter 13 = .ok (.aload_n 0, 1) := by decide +kernel
theorem d_X4_goOneQuarter_14 : decode cX4_goOneQuarter 14 = .ok (.getfield 18, 3) := by decide +kernel
theorem d_X4_goOneQuarter_17 : decode cX4_goOneQuarter 17 = .ok (.if_icmp .ge 60, 3) := by decide +kernel
theorem d_X4_goOneQuarter_20 : decode cX4_goOneQuarter 20 = .ok (.aload_n 0, 1) := by decide +kernel
theorem d_X4_goOneQuarter_21 : decode cX4_goOneQuarter 21 = .ok (.getfield 58, 3) := by decide +kernel
theorem d_X4_goOneQuarter_24 : decode cX4_goOneQuarter 24 = .ok (.iload_n 1, 1) := by decide +kernel
theorem d_X4_goOneQuarter_25 : decode cX4_goOneQuarter 25 = .ok (.aaload, 1) := by decide +kernel
theorem d_X4_goOneQuarter_26 : decode cX4_goOneQuarter 26 = .ok (.astore_n 2, 1) := by decide +kernel
theorem d_X4_goOneQuarter_27 : decode cX4_goOneQuarter 27 = .ok (.aload_n 2, 1) := by decide +kernel
theorem d_X4_goOneQuarter_28 : decode cX4_goOneQuarter 28 = .ok (.invokevirtual 208, 3) := by decide +kernel
theorem d_X4_goOneQuarter_31 : decode cX4_goOneQuarter 31 = .ok (.ifCond .eq 40, 3) := by decide +kernel
theorem d_X4_goOneQuarter_34 : decode cX4_goOneQuarter 34 = .ok (.aload_n 2, 1) := by decide +kernel
theorem d_X4_goOneQuarter_35 : decode cX4_goOneQuarter 35 = .ok (.getfield 205, 3) := by decide +kernel
theorem d_X4_goOneQuarter_38 : decode cX4_goOneQuarter 38 = .ok (.aload_n 0, 1) := by decide +kernel
theorem d_X4_goOneQuarter_39 : decode cX4_goOneQuarter 39 = .ok (.getfield 9, 3) := by decide +kernel
theorem d_X4_goOneQuarter_42 : decode cX4_goOneQuarter 42 = .ok (.if_icmp .ne 29, 3) := by decide +kernel
theorem d_X4_goOneQuarter_45 : decode cX4_goOneQuarter 45 = .ok (.aload_n 0, 1) := by decide +kernel
theorem d_X4_goOneQuarter_46 : decode cX4_goOneQuarter 46 = .ok (.aload_n 2, 1) := by decide +kernel
theorem d_X4_goOneQuarter_47 : decode cX4_goOneQuarter 47 = .ok (.aload_n 2, 1) := by decide +kernel
theorem d_X4_goOneQuarter_48 : decode cX4_goOneQuarter 48 = .ok (.getfield 160, 3) := by decide +kernel
theorem d_X4_goOneQuarter_51 : decode cX4_goOneQuarter 51 = .ok (.iconst 1, 1) := by decide +kernel
theorem d_X4_goOneQuarter_52 : decode cX4_goOneQuarter 52 = .ok (.if_icmp .ne 12, 3) := by decide +kernel
theorem d_X4_goOneQuarter_55 : decode cX4_goOneQuarter 55 = .ok (.aload_n 2, 1) := by decide +kernel
theorem d_X4_goOneQuarter_56 : decode cX4_goOneQuarter 56 = .ok (.getfield 199, 3) := by decide +kernel
theorem d_X4_goOneQuarter_59 : decode cX4_goOneQuarter 59 = .ok (.iconst 1, 1) := by decide +kernel
theorem d_X4_goOneQuarter_60 : decode cX4_goOneQuarter 60 = .ok (.iadd, 1) := by decide +kernel
theorem d_X4_goOneQuarter_61 : decode cX4_goOneQuarter 61 = .ok (.goto 7, 3) := by decide +kernel
theorem d_X4_goOneQuarter_64 : decode cX4_goOneQuarter 64 = .ok (.aload_n 2, 1) := by decide +kernel
theorem d_X4_goOneQuarter_65 : decode cX4_goOneQuarter 65 = .ok (.getfield 199, 3) := by decide +kernel
theorem d_X4_goOneQuarter_68 : decode cX4_goOneQuarter 68 = .ok (.invokevirtual 211, 3) := by decide +kernel
theorem d_X4_goOneQuarter_71 : decode cX4_goOneQuarter 71 = .ok (.iinc 1 1, 3) := by decide +kernel
theorem d_X4_goOneQuarter_74 : decode cX4_goOneQuarter 74 = .ok (.goto (-62), 3) := by decide +kernel
theorem d_X4_goOneQuarter_77 : decode cX4_goOneQuarter 77 = .ok (.return_, 1) := by decide +kernel
theorem d_X4_comeTo_0 : decode cX4_comeTo 0 = .ok (.aload_n 1, 1) := by decide +kernel
theorem d_X4_comeTo_1 : decode cX4_comeTo 1 = .ok (.iconst 0, 1) := by decide +kernel
theorem d_X4_comeTo_2 : decode cX4_comeTo 2 = .ok (.putfield 160, 3) := by decide +kernel
theorem d_X4_comeTo_5 : decode cX4_comeTo 5 = .ok (.aload_n 1, 1) := by decide +kernel
theorem d_X4_comeTo_6 : decode cX4_comeTo 6 = .ok (.iload_n 2, 1) := by decide +kernel
theorem d_X4_comeTo_7 : decode cX4_comeTo 7 = .ok (.putfield 199, 3) := by decide +kernel
theorem d_X4_comeTo_10 : decode cX4_comeTo 10 = .ok (.aload_n 1, 1) := by decide +kernel
theorem d_X4_comeTo_11 : decode cX4_comeTo 11 = .ok (.getfield 170, 3) := by decide +kernel
theorem d_X4_comeTo_14 : decode cX4_comeTo 14 = .ok (.aload_n 0, 1) := by decide +kernel
theorem d_X4_comeTo_15 : decode cX4_comeTo 15 = .ok (.getfield 52, 3) := by decide +kernel
theorem d_X4_comeTo_18 : decode cX4_comeTo 18 = .ok (.iload_n 2, 1) := by decide +kernel
theorem d_X4_comeTo_19 : decode cX4_comeTo 19 = .ok (.aaload, 1) := by decide +kernel
theorem d_X4_comeTo_20 : decode cX4_comeTo 20 = .ok (.getfield 215, 3) := by decide +kernel
theorem d_X4_comeTo_23 : decode cX4_comeTo 23 = .ok (.invokevirtual 216, 3) := by decide +kernel
theorem d_X4_comeTo_26 : decode cX4_comeTo 26 = .ok (.return_, 1) := by decide +kernel
theorem d_X4_carrierOf_0 : decode cX4_carrierOf 0 = .ok (.aload_n 1, 1) := by decide +kernel
theorem d_X4_carrierOf_1 : decode cX4_carrierOf 1 = .ok (.getfield 220, 3) := by decide +kernel
theorem d_X4_carrierOf_4 : decode cX4_carrierOf 4 = .ok (.iconst 1, 1) := by decide +kernel
theorem d_X4_carrierOf_5 : decode cX4_carrierOf 5 = .ok (.if_icmp .ne 26, 3) := by decide +kernel
theorem d_X4_carrierOf_8 : decode cX4_carrierOf 8 = .ok (.aload_n 0, 1) := by decide +kernel
theorem d_X4_carrierOf_9 : decode cX4_carrierOf 9 = .ok (.aload_n 1, 1) := by decide +kernel
theorem d_X4_carrierOf_10 : decode cX4_carrierOf 10 = .ok (.getfield 221, 3) := by decide +kernel
theorem d_X4_carrierOf_13 : decode cX4_carrierOf 13 = .ok (.invokevirtual 222, 3) := by decide +kernel
theorem d_X4_carrierOf_16 : decode cX4_carrierOf 16 = .ok (.ifCond .eq 15, 3) := by decide +kernel
theorem d_X4_carrierOf_19 : decode cX4_carrierOf 19 = .ok (.aload_n 0, 1) := by decide +kernel
theorem d_X4_carrierOf_20 : decode cX4_carrierOf 20 = .ok (.getfield 58, 3) := by decide +kernel
theorem d_X4_carrierOf_23 : decode cX4_carrierOf 23 = .ok (.aload_n 1, 1) := by decide +kernel
theorem d_X4_carrierOf_24 : decode cX4_carrierOf 24 = .ok (.getfield 221, 3) := by decide +kernel
theorem d_X4_carrierOf_27 : decode cX4_carrierOf 27 = .ok (.aaload, 1) := by decide +kernel
theorem d_X4_carrierOf_28 : decode cX4_carrierOf 28 = .ok (.goto 4, 3) := by decide +kernel
theorem d_X4_carrierOf_31 : decode cX4_carrierOf 31 = .ok (.aconst_null, 1) := by decide +kernel
theorem d_X4_carrierOf_32 : decode cX4_carrierOf 32 = .ok (.areturn, 1) := by decide +kernel
theorem d_X4_boatsAground_0 : decode cX4_boatsAground 0 = .ok (.iconst 0, 1) := by decide +kernel
theorem d_X4_boatsAground_1 : decode cX4_boatsAground 1 = .ok (.istore_n 1, 1) := by decide +kernel
theorem d_X4_boatsAground_2 : decode cX4_boatsAground 2 = .ok (.iconst 0, 1) := by decide +kernel
theorem d_X4_boatsAground_3 : decode cX4_boatsAground 3 = .ok (.istore_n 2, 1) := by decide +kernel
theorem d_X4_boatsAground_4 : decode cX4_boatsAground 4 = .ok (.iload_n 2, 1) := by decide +kernel
theorem d_X4_boatsAground_5 : decode cX4_boatsAground 5 = .ok (.aload_n 0, 1) := by decide +kernel
theorem d_X4_boatsAground_6 : decode cX4_boatsAground 6 = .ok (.getfield 18, 3) := by decide +kernel
theorem d_X4_boatsAground_9 : decode cX4_boatsAground 9 = .ok (.if_icmp .ge 30, 3) := by decide +kernel
theorem d_X4_boatsAground_12 : decode cX4_boatsAground 12 = .ok (.iload_n 1, 1) := by decide +kernel
theorem d_X4_boatsAground_13 : decode cX4_boatsAground 13 = .ok (.aload_n 0, 1) := by decide +kernel
theorem d_X4_boatsAground_14 : decode cX4_boatsAground 14 = .ok (.getfield 58, 3) := by decide +kernel
theorem d_X4_boatsAground_17 : decode cX4_boatsAground 17 = .ok (.iload_n 2, 1) := by decide +kernel
theorem d_X4_boatsAground_18 : decode cX4_boatsAground 18 = .ok (.aaload, 1) := by decide +kernel
theorem d_X4_boatsAground_19 : decode cX4_boatsAground 19 = .ok (.getfield 160, 3) := by decide +kernel
theorem d_X4_boatsAground_22 : decode cX4_boatsAground 22 = .ok (.iconst 3, 1) := by decide +kernel
theorem d_X4_boatsAground_23 : decode cX4_boatsAground 23 = .ok (.if_icmp .ne 7, 3) := by decide +kernel
theorem d_X4_boatsAground_26 : decode cX4_boatsAground 26 = .ok (.iconst 1, 1) := by decide +kernel
theorem d_X4_boatsAground_27 : decode cX4_boatsAground 27 = .ok (.goto 4, 3) := by decide +kernel
theorem d_X4_boatsAground_30 : decode cX4_boatsAground 30 = .ok (.iconst 0, 1) := by decide +kernel
theorem d_X4_boatsAground_31 : decode cX4_boatsAground 31 = .ok (.iadd, 1) := by decide +kernel
theorem d_X4_boatsAground_32 : decode cX4_boatsAground 32 = .ok (.istore_n 1, 1) := by decide +kernel
theorem d_X4_boatsAground_33 : decode cX4_boatsAground 33 = .ok (.iinc 2 1, 3) := by decide +kernel
theorem d_X4_boatsAground_36 : decode cX4_boatsAground 36 = .ok (.goto (-32), 3) := by decide +kernel
theorem d_X4_boatsAground_39 : decode cX4_boatsAground 39 = .ok (.iload_n 1, 1) := by decide +kernel
theorem d_X4_boatsAground_40 : decode cX4_boatsAground 40 = .ok (.ireturn, 1) := by decide +kernel
theorem d_X4_darkCrossings_0 : decode cX4_darkCrossings 0 = .ok (.iconst 0, 1) := by decide +kernel
theorem d_X4_darkCrossings_1 : decode cX4_darkCrossings 1 = .ok (.istore_n 1, 1) := by decide +kernel
theorem d_X4_darkCrossings_2 : decode cX4_darkCrossings 2 = .ok (.iconst 0, 1) := by decide +kernel
theorem d_X4_darkCrossings_3 : decode cX4_darkCrossings 3 = .ok (.istore_n 2, 1) := by decide +kernel
theorem d_X4_darkCrossings_4 : decode cX4_darkCrossings 4 = .ok (.iload_n 2, 1) := by decide +kernel
theorem d_X4_darkCrossings_5 : decode cX4_darkCrossings 5 = .ok (.aload_n 0, 1) := by decide +kernel
theorem d_X4_darkCrossings_6 : decode cX4_darkCrossings 6 = .ok (.getfield 15, 3) := by decide +kernel
theorem d_X4_darkCrossings_9 : decode cX4_darkCrossings 9 = .ok (.if_icmp .ge 54, 3) := by decide +kernel
theorem d_X4_darkCrossings_12 : decode cX4_darkCrossings 12 = .ok (.aload_n 0, 1) := by decide +kernel
theorem d_X4_darkCrossings_13 : decode cX4_darkCrossings 13 = .ok (.getfield 46, 3) := by decide +kernel
theorem d_X4_darkCrossings_16 : decode cX4_darkCrossings 16 = .ok (.iload_n 2, 1) := by decide +kernel
theorem d_X4_darkCrossings_17 : decode cX4_darkCrossings 17 = .ok (.aaload, 1) := by decide +kernel
theorem d_X4_darkCrossings_18 : decode cX4_darkCrossings 18 = .ok (.getfield 129, 3) := by decide +kernel
theorem d_X4_darkCrossings_21 : decode cX4_darkCrossings 21 = .ok (.iconst 3, 1) := by decide +kernel
theorem d_X4_darkCrossings_22 : decode cX4_darkCrossings 22 = .ok (.if_icmp .ne 19, 3) := by decide +kernel
theorem d_X4_darkCrossings_25 : decode cX4_darkCrossings 25 = .ok (.aload_n 0, 1) := by decide +kernel
theorem d_X4_darkCrossings_26 : decode cX4_darkCrossings 26 = .ok (.getfield 46, 3) := by decide +kernel
theorem d_X4_darkCrossings_29 : decode cX4_darkCrossings 29 = .ok (.iload_n 2, 1) := by decide +kernel
theorem d_X4_darkCrossings_30 : decode cX4_darkCrossings 30 = .ok (.aaload, 1) := by decide +kernel
theorem d_X4_darkCrossings_31 : decode cX4_darkCrossings 31 = .ok (.getfield 146, 3) := by decide +kernel
theorem d_X4_darkCrossings_34 : decode cX4_darkCrossings 34 = .ok (.ifCond .ne 7, 3) := by decide +kernel
theorem d_X4_darkCrossings_37 : decode cX4_darkCrossings 37 = .ok (.iconst 1, 1) := by decide +kernel
theorem d_X4_darkCrossings_38 : decode cX4_darkCrossings 38 = .ok (.goto 4, 3) := by decide +kernel
theorem d_X4_darkCrossings_41 : decode cX4_darkCrossings 41 = .ok (.iconst 0, 1) := by decide +kernel
theorem d_X4_darkCrossings_42 : decode cX4_darkCrossings 42 = .ok (.istore_n 3, 1) := by decide +kernel
theorem d_X4_darkCrossings_43 : decode cX4_darkCrossings 43 = .ok (.iload_n 1, 1) := by decide +kernel
theorem d_X4_darkCrossings_44 : decode cX4_darkCrossings 44 = .ok (.iload_n 3, 1) := by decide +kernel
theorem d_X4_darkCrossings_45 : decode cX4_darkCrossings 45 = .ok (.ifCond .eq 9, 3) := by decide +kernel
theorem d_X4_darkCrossings_48 : decode cX4_darkCrossings 48 = .ok (.iconst 1, 1) := by decide +kernel
theorem d_X4_darkCrossings_49 : decode cX4_darkCrossings 49 = .ok (.iload_n 2, 1) := by decide +kernel
theorem d_X4_darkCrossings_50 : decode cX4_darkCrossings 50 = .ok (.ishl, 1) := by decide +kernel
theorem d_X4_darkCrossings_51 : decode cX4_darkCrossings 51 = .ok (.goto 4, 3) := by decide +kernel
theorem d_X4_darkCrossings_54 : decode cX4_darkCrossings 54 = .ok (.iconst 0, 1) := by decide +kernel
theorem d_X4_darkCrossings_55 : decode cX4_darkCrossings 55 = .ok (.ior, 1) := by decide +kernel
theorem d_X4_darkCrossings_56 : decode cX4_darkCrossings 56 = .ok (.istore_n 1, 1) := by decide +kernel
theorem d_X4_darkCrossings_57 : decode cX4_darkCrossings 57 = .ok (.iinc 2 1, 3) := by decide +kernel
theorem d_X4_darkCrossings_60 : decode cX4_darkCrossings 60 = .ok (.goto (-56), 3) := by decide +kernel
theorem d_X4_darkCrossings_63 : decode cX4_darkCrossings 63 = .ok (.iload_n 1, 1) := by decide +kernel
theorem d_X4_darkCrossings_64 : decode cX4_darkCrossings 64 = .ok (.ireturn, 1) := by decide +kernel
theorem d_X4_tripsBear_0 : decode cX4_tripsBear 0 = .ok (.iconst 0, 1) := by decide +kernel
theorem d_X4_tripsBear_1 : decode cX4_tripsBear 1 = .ok (.istore_n 2, 1) := by decide +kernel
theorem d_X4_tripsBear_2 : decode cX4_tripsBear 2 = .ok (.iload_n 2, 1) := by decide +kernel
theorem d_X4_tripsBear_3 : decode cX4_tripsBear 3 = .ok (.aload_n 0, 1) := by decide +kernel
theorem d_X4_tripsBear_4 : decode cX4_tripsBear 4 = .ok (.getfield 24, 3) := by decide +kernel
theorem d_X4_tripsBear_7 : decode cX4_tripsBear 7 = .ok (.if_icmp .ge 37, 3) := by decide +kernel
theorem d_X4_tripsBear_10 : decode cX4_tripsBear 10 = .ok (.iload_n 1, 1) := by decide +kernel
theorem d_X4_tripsBear_11 : decode cX4_tripsBear 11 = .ok (.aload_n 0, 1) := by decide +kernel
theorem d_X4_tripsBear_12 : decode cX4_tripsBear 12 = .ok (.getfield 70, 3) := by decide +kernel
theorem d_X4_tripsBear_15 : decode cX4_tripsBear 15 = .ok (.iload_n 2, 1) := by decide +kernel
theorem d_X4_tripsBear_16 : decode cX4_tripsBear 16 = .ok (.aaload, 1) := by decide +kernel
theorem d_X4_tripsBear_17 : decode cX4_tripsBear 17 = .ok (.invokevirtual 225, 3) := by decide +kernel
theorem d_X4_tripsBear_20 : decode cX4_tripsBear 20 = .ok (.iand, 1) := by decide +kernel
theorem d_X4_tripsBear_21 : decode cX4_tripsBear 21 = .ok (.invokestatic 228, 3) := by decide +kernel
theorem d_X4_tripsBear_24 : decode cX4_tripsBear 24 = .ok (.aload_n 0, 1) := by decide +kernel
theorem d_X4_tripsBear_25 : decode cX4_tripsBear 25 = .ok (.getfield 70, 3) := by decide +kernel
theorem d_X4_tripsBear_28 : decode cX4_tripsBear 28 = .ok (.iload_n 2, 1) := by decide +kernel
theorem d_X4_tripsBear_29 : decode cX4_tripsBear 29 = .ok (.aaload, 1) := by decide +kernel
theorem d_X4_tripsBear_30 : decode cX4_tripsBear 30 = .ok (.getfield 233, 3) := by decide +kernel
theorem d_X4_tripsBear_33 : decode cX4_tripsBear 33 = .ok (.if_icmp .le 5, 3) := by decide +kernel
theorem d_X4_tripsBear_36 : decode cX4_tripsBear 36 = .ok (.iconst 0, 1) := by decide +kernel
theorem d_X4_tripsBear_37 : decode cX4_tripsBear 37 = .ok (.ireturn, 1) := by decide +kernel
theorem d_X4_tripsBear_38 : decode cX4_tripsBear 38 = .ok (.iinc 2 1, 3) := by decide +kernel
theorem d_X4_tripsBear_41 : decode cX4_tripsBear 41 = .ok (.goto (-39), 3) := by decide +kernel
theorem d_X4_tripsBear_44 : decode cX4_tripsBear 44 = .ok (.iconst 1, 1) := by decide +kernel
theorem d_X4_tripsBear_45 : decode cX4_tripsBear 45 = .ok (.ireturn, 1) := by decide +kernel
theorem d_X5_init_0 : decode cX5_init 0 = .ok (.aload_n 0, 1) := by decide +kernel
theorem d_X5_init_1 : decode cX5_init 1 = .ok (.invokespecial 1, 3) := by decide +kernel
theorem d_X5_init_4 : decode cX5_init 4 = .ok (.aload_n 0, 1) := by decide +kernel
theorem d_X5_init_5 : decode cX5_init 5 = .ok (.iconst 0, 1) := by decide +kernel
theorem d_X5_init_6 : decode cX5_init 6 = .ok (.putfield 7, 3) := by decide +kernel
theorem d_X5_init_9 : decode cX5_init 9 = .ok (.aload_n 0, 1) := by decide +kernel
theorem d_X5_init_10 : decode cX5_init 10 = .ok (.iconst 0, 1) := by decide +kernel
theorem d_X5_init_11 : decode cX5_init 11 = .ok (.putfield 13, 3) := by decide +kernel
theorem d_X5_init_14 : decode cX5_init 14 = .ok (.aload_n 0, 1) := by decide +kernel
theorem d_X5_init_15 : decode cX5_init 15 = .ok (.iconst 0, 1) := by decide +kernel
theorem d_X5_init_16 : decode cX5_init 16 = .ok (.putfield 16, 3) := by decide +kernel
theorem d_X5_init_19 : decode cX5_init 19 = .ok (.aload_n 0, 1) := by decide +kernel
theorem d_X5_init_20 : decode cX5_init 20 = .ok (.iconst 0, 1) := by decide +kernel
theorem d_X5_init_21 : decode cX5_init 21 = .ok (.putfield 19, 3) := by decide +kernel
theorem d_X5_init_24 : decode cX5_init 24 = .ok (.return_, 1) := by decide +kernel
theorem d_X5_begin_0 : decode cX5_begin 0 = .ok (.aload_n 0, 1) := by decide +kernel
theorem d_X5_begin_1 : decode cX5_begin 1 = .ok (.iload_n 1, 1) := by decide +kernel
theorem d_X5_begin_2 : decode cX5_begin 2 = .ok (.putfield 7, 3) := by decide +kernel
theorem d_X5_begin_5 : decode cX5_begin 5 = .ok (.aload_n 0, 1) := by decide +kernel
theorem d_X5_begin_6 : decode cX5_begin 6 = .ok (.iload_n 2, 1) := by decide +kernel
theorem d_X5_begin_7 : decode cX5_begin 7 = .ok (.putfield 13, 3) := by decide +kernel
theorem d_X5_begin_10 : decode cX5_begin 10 = .ok (.aload_n 0, 1) := by decide +kernel
theorem d_X5_begin_11 : decode cX5_begin 11 = .ok (.iload_n 3, 1) := by decide +kernel
theorem d_X5_begin_12 : decode cX5_begin 12 = .ok (.putfield 16, 3) := by decide +kernel
theorem d_X5_begin_15 : decode cX5_begin 15 = .ok (.aload_n 0, 1) := by decide +kernel
theorem d_X5_begin_16 : decode cX5_begin 16 = .ok (.iload 4, 2) := by decide +kernel
theorem d_X5_begin_18 : decode cX5_begin 18 = .ok (.putfield 19, 3) := by decide +kernel
theorem d_X5_begin_21 : decode cX5_begin 21 = .ok (.return_, 1) := by decide +kernel
theorem d_X5_copyFrom_0 : decode cX5_copyFrom 0 = .ok (.aload_n 0, 1) := by decide +kernel
theorem d_X5_copyFrom_1 : decode cX5_copyFrom 1 = .ok (.aload_n 1, 1) := by decide +kernel
theorem d_X5_copyFrom_2 : decode cX5_copyFrom 2 = .ok (.getfield 7, 3) := by decide +kernel
theorem d_X5_copyFrom_5 : decode cX5_copyFrom 5 = .ok (.aload_n 1, 1) := by decide +kernel
theorem d_X5_copyFrom_6 : decode cX5_copyFrom 6 = .ok (.getfield 13, 3) := by decide +kernel
theorem d_X5_copyFrom_9 : decode cX5_copyFrom 9 = .ok (.aload_n 1, 1) := by decide +kernel
theorem d_X5_copyFrom_10 : decode cX5_copyFrom 10 = .ok (.getfield 16, 3) := by decide +kernel
theorem d_X5_copyFrom_13 : decode cX5_copyFrom 13 = .ok (.aload_n 1, 1) := by decide +kernel
theorem d_X5_copyFrom_14 : decode cX5_copyFrom 14 = .ok (.getfield 19, 3) := by decide +kernel
theorem d_X5_copyFrom_17 : decode cX5_copyFrom 17 = .ok (.invokevirtual 22, 3) := by decide +kernel
theorem d_X5_copyFrom_20 : decode cX5_copyFrom 20 = .ok (.return_, 1) := by decide +kernel
theorem d_X5_isInForce_0 : decode cX5_isInForce 0 = .ok (.iload_n 1, 1) := by decide +kernel
theorem d_X5_isInForce_1 : decode cX5_isInForce 1 = .ok (.aload_n 0, 1) := by decide +kernel
theorem d_X5_isInForce_2 : decode cX5_isInForce 2 = .ok (.getfield 16, 3) := by decide +kernel
theorem d_X5_isInForce_5 : decode cX5_isInForce 5 = .ok (.aload_n 0, 1) := by decide +kernel
theorem d_X5_isInForce_6 : decode cX5_isInForce 6 = .ok (.getfield 19, 3) := by decide +kernel
theorem d_X5_isInForce_9 : decode cX5_isInForce 9 = .ok (.invokestatic 26, 3) := by decide +kernel
theorem d_X5_isInForce_12 : decode cX5_isInForce 12 = .ok (.ireturn, 1) := by decide +kernel
theorem d_X6_init_0 : decode cX6_init 0 = .ok (.aload_n 0, 1) := by decide +kernel
theorem d_X6_init_1 : decode cX6_init 1 = .ok (.invokespecial 3, 3) := by decide +kernel
theorem d_X6_init_4 : decode cX6_init 4 = .ok (.aload_n 0, 1) := by decide +kernel
theorem d_X6_init_5 : decode cX6_init 5 = .ok (.iconst (-1), 1) := by decide +kernel
theorem d_X6_init_6 : decode cX6_init 6 = .ok (.putfield 9, 3) := by decide +kernel
theorem d_X6_init_9 : decode cX6_init 9 = .ok (.aload_n 0, 1) := by decide +kernel
theorem d_X6_init_10 : decode cX6_init 10 = .ok (.iconst 0, 1) := by decide +kernel
theorem d_X6_init_11 : decode cX6_init 11 = .ok (.putfield 15, 3) := by decide +kernel
theorem d_X6_init_14 : decode cX6_init 14 = .ok (.aload_n 0, 1) := by decide +kernel
theorem d_X6_init_15 : decode cX6_init 15 = .ok (.bipush 40, 2) := by decide +kernel
theorem d_X6_init_17 : decode cX6_init 17 = .ok (.newarray .int, 2) := by decide +kernel
theorem d_X6_init_19 : decode cX6_init 19 = .ok (.putfield 18, 3) := by decide +kernel
theorem d_X6_init_22 : decode cX6_init 22 = .ok (.return_, 1) := by decide +kernel
theorem d_X6_begin_0 : decode cX6_begin 0 = .ok (.aload_n 0, 1) := by decide +kernel
theorem d_X6_begin_1 : decode cX6_begin 1 = .ok (.iload_n 1, 1) := by decide +kernel
theorem d_X6_begin_2 : decode cX6_begin 2 = .ok (.putfield 9, 3) := by decide +kernel
theorem d_X6_begin_5 : decode cX6_begin 5 = .ok (.aload_n 0, 1) := by decide +kernel
theorem d_X6_begin_6 : decode cX6_begin 6 = .ok (.iload_n 2, 1) := by decide +kernel
theorem d_X6_begin_7 : decode cX6_begin 7 = .ok (.putfield 15, 3) := by decide +kernel
theorem d_X6_begin_10 : decode cX6_begin 10 = .ok (.aload_n 0, 1) := by decide +kernel
theorem d_X6_begin_11 : decode cX6_begin 11 = .ok (.getfield 18, 3) := by decide +kernel
theorem d_X6_begin_14 : decode cX6_begin 14 = .ok (.iconst 0, 1) := by decide +kernel
theorem d_X6_begin_15 : decode cX6_begin 15 = .ok (.invokestatic 22, 3) := by decide +kernel
theorem d_X6_begin_18 : decode cX6_begin 18 = .ok (.return_, 1) := by decide +kernel
theorem d_X6_isMissing_0 : decode cX6_isMissing 0 = .ok (.aload_n 0, 1) := by decide +kernel
theorem d_X6_isMissing_1 : decode cX6_isMissing 1 = .ok (.getfield 9, 3) := by decide +kernel
theorem d_X6_isMissing_4 : decode cX6_isMissing 4 = .ok (.iconst (-1), 1) := by decide +kernel
theorem d_X6_isMissing_5 : decode cX6_isMissing 5 = .ok (.if_icmp .ne 7, 3) := by decide +kernel
theorem d_X6_isMissing_8 : decode cX6_isMissing 8 = .ok (.iconst 1, 1) := by decide +kernel
theorem d_X6_isMissing_9 : decode cX6_isMissing 9 = .ok (.goto 4, 3) := by decide +kernel
theorem d_X6_isMissing_12 : decode cX6_isMissing 12 = .ok (.iconst 0, 1) := by decide +kernel
theorem d_X6_isMissing_13 : decode cX6_isMissing 13 = .ok (.ireturn, 1) := by decide +kernel
theorem d_X6_hasPlace_0 : decode cX6_hasPlace 0 = .ok (.iload_n 1, 1) := by decide +kernel
theorem d_X6_hasPlace_1 : decode cX6_hasPlace 1 = .ok (.iconst 0, 1) := by decide +kernel
theorem d_X6_hasPlace_2 : decode cX6_hasPlace 2 = .ok (.aload_n 0, 1) := by decide +kernel
theorem d_X6_hasPlace_3 : decode cX6_hasPlace 3 = .ok (.getfield 15, 3) := by decide +kernel
theorem d_X6_hasPlace_6 : decode cX6_hasPlace 6 = .ok (.iconst 1, 1) := by decide +kernel
theorem d_X6_hasPlace_7 : decode cX6_hasPlace 7 = .ok (.isub, 1) := by decide +kernel
theorem d_X6_hasPlace_8 : decode cX6_hasPlace 8 = .ok (.invokestatic 28, 3) := by decide +kernel
theorem d_X6_hasPlace_11 : decode cX6_hasPlace 11 = .ok (.ireturn, 1) := by decide +kernel
theorem d_X6_faultAs_0 : decode cX6_faultAs 0 = .ok (.aload_n 0, 1) := by decide +kernel
theorem d_X6_faultAs_1 : decode cX6_faultAs 1 = .ok (.invokevirtual 32, 3) := by decide +kernel
theorem d_X6_faultAs_4 : decode cX6_faultAs 4 = .ok (.ifCond .eq 6, 3) := by decide +kernel
theorem d_X6_faultAs_7 : decode cX6_faultAs 7 = .ok (.bipush 10, 2) := by decide +kernel
theorem d_X6_faultAs_9 : decode cX6_faultAs 9 = .ok (.ireturn, 1) := by decide +kernel
theorem d_X6_faultAs_10 : decode cX6_faultAs 10 = .ok (.aload_n 0, 1) := by decide +kernel
theorem d_X6_faultAs_11 : decode cX6_faultAs 11 = .ok (.getfield 9, 3) := by decide +kernel
theorem d_X6_faultAs_14 : decode cX6_faultAs 14 = .ok (.iload_n 1, 1) := by decide +kernel
theorem d_X6_faultAs_15 : decode cX6_faultAs 15 = .ok (.if_icmp .ne 7, 3) := by decide +kernel
theorem d_X6_faultAs_18 : decode cX6_faultAs 18 = .ok (.iconst 0, 1) := by decide +kernel
theorem d_X6_faultAs_19 : decode cX6_faultAs 19 = .ok (.goto 5, 3) := by decide +kernel
theorem d_X6_faultAs_22 : decode cX6_faultAs 22 = .ok (.bipush 11, 2) := by decide +kernel
theorem d_X6_faultAs_24 : decode cX6_faultAs 24 = .ok (.ireturn, 1) := by decide +kernel
theorem d_X6_put_0 : decode cX6_put 0 = .ok (.aload_n 0, 1) := by decide +kernel
theorem d_X6_put_1 : decode cX6_put 1 = .ok (.getfield 18, 3) := by decide +kernel
theorem d_X6_put_4 : decode cX6_put 4 = .ok (.iload_n 1, 1) := by decide +kernel
theorem d_X6_put_5 : decode cX6_put 5 = .ok (.aload_n 0, 1) := by decide +kernel
theorem d_X6_put_6 : decode cX6_put 6 = .ok (.getfield 9, 3) := by decide +kernel
theorem d_X6_put_9 : decode cX6_put 9 = .ok (.ifCond .ne 8, 3) := by decide +kernel
theorem d_X6_put_12 : decode cX6_put 12 = .ok (.iload_n 2, 1) := by decide +kernel
theorem d_X6_put_13 : decode cX6_put 13 = .ok (.i2b, 1) := by decide +kernel
theorem d_X6_put_14 : decode cX6_put 14 = .ok (.goto 4, 3) := by decide +kernel
theorem d_X6_put_17 : decode cX6_put 17 = .ok (.iload_n 2, 1) := by decide +kernel
theorem d_X6_put_18 : decode cX6_put 18 = .ok (.iastore, 1) := by decide +kernel
theorem d_X6_put_19 : decode cX6_put 19 = .ok (.return_, 1) := by decide +kernel
theorem d_X7_init_0 : decode cX7_init 0 = .ok (.aload_n 0, 1) := by decide +kernel
theorem d_X7_init_1 : decode cX7_init 1 = .ok (.invokespecial 3, 3) := by decide +kernel
theorem d_X7_init_4 : decode cX7_init 4 = .ok (.aload_n 0, 1) := by decide +kernel
theorem d_X7_init_5 : decode cX7_init 5 = .ok (.iconst 0, 1) := by decide +kernel
theorem d_X7_init_6 : decode cX7_init 6 = .ok (.putfield 9, 3) := by decide +kernel
theorem d_X7_init_9 : decode cX7_init 9 = .ok (.aload_n 0, 1) := by decide +kernel
theorem d_X7_init_10 : decode cX7_init 10 = .ok (.iconst 0, 1) := by decide +kernel
theorem d_X7_init_11 : decode cX7_init 11 = .ok (.putfield 15, 3) := by decide +kernel
theorem d_X7_init_14 : decode cX7_init 14 = .ok (.aload_n 0, 1) := by decide +kernel
theorem d_X7_init_15 : decode cX7_init 15 = .ok (.iconst 0, 1) := by decide +kernel
theorem d_X7_init_16 : decode cX7_init 16 = .ok (.putfield 18, 3) := by decide +kernel
theorem d_X7_init_19 : decode cX7_init 19 = .ok (.aload_n 0, 1) := by decide +kernel
theorem d_X7_init_20 : decode cX7_init 20 = .ok (.iconst 0, 1) := by decide +kernel
theorem d_X7_init_21 : decode cX7_init 21 = .ok (.putfield 21, 3) := by decide +kernel
theorem d_X7_init_24 : decode cX7_init 24 = .ok (.aload_n 0, 1) := by decide +kernel
theorem d_X7_init_25 : decode cX7_init 25 = .ok (.iconst 0, 1) := by decide +kernel
theorem d_X7_init_26 : decode cX7_init 26 = .ok (.putfield 24, 3) := by decide +kernel
theorem d_X7_init_29 : decode cX7_init 29 = .ok (.aload_n 0, 1) := by decide +kernel
theorem d_X7_init_30 : decode cX7_init 30 = .ok (.bipush 100, 2) := by decide +kernel
theorem d_X7_init_32 : decode cX7_init 32 = .ok (.newarray .int, 2) := by decide +kernel
theorem d_X7_init_34 : decode cX7_init 34 = .ok (.putfield 28, 3) := by decide +kernel
theorem d_X7_init_37 : decode cX7_init 37 = .ok (.return_, 1) := by decide +kernel
theorem d_X7_begin_0 : decode cX7_begin 0 = .ok (.aload_n 0, 1) := by decide +kernel
theorem d_X7_begin_1 : decode cX7_begin 1 = .ok (.iload_n 1, 1) := by decide +kernel
theorem d_X7_begin_2 : decode cX7_begin 2 = .ok (.putfield 9, 3) := by decide +kernel
theorem d_X7_begin_5 : decode cX7_begin 5 = .ok (.aload_n 0, 1) := by decide +kernel
theorem d_X7_begin_6 : decode cX7_begin 6 = .ok (.iload_n 2, 1) := by decide +kernel
theorem d_X7_begin_7 : decode cX7_begin 7 = .ok (.putfield 15, 3) := by decide +kernel
theorem d_X7_begin_10 : decode cX7_begin 10 = .ok (.aload_n 0, 1) := by decide +kernel
theorem d_X7_begin_11 : decode cX7_begin 11 = .ok (.iload_n 3, 1) := by decide +kernel
theorem d_X7_begin_12 : decode cX7_begin 12 = .ok (.putfield 18, 3) := by decide +kernel
theorem d_X7_begin_15 : decode cX7_begin 15 = .ok (.aload_n 0, 1) := by decide +kernel
theorem d_X7_begin_16 : decode cX7_begin 16 = .ok (.iload 4, 2) := by decide +kernel
theorem d_X7_begin_18 : decode cX7_begin 18 = .ok (.putfield 21, 3) := by decide +kernel
theorem d_X7_begin_21 : decode cX7_begin 21 = .ok (.aload_n 0, 1) := by decide +kernel
theorem d_X7_begin_22 : decode cX7_begin 22 = .ok (.iconst 0, 1) := by decide +kernel
theorem d_X7_begin_23 : decode cX7_begin 23 = .ok (.putfield 24, 3) := by decide +kernel
theorem d_X7_begin_26 : decode cX7_begin 26 = .ok (.aload_n 0, 1) := by decide +kernel
theorem d_X7_begin_27 : decode cX7_begin 27 = .ok (.getfield 28, 3) := by decide +kernel
theorem d_X7_begin_30 : decode cX7_begin 30 = .ok (.sipush (-1000), 3) := by decide +kernel
theorem d_X7_begin_33 : decode cX7_begin 33 = .ok (.invokestatic 32, 3) := by decide +kernel
theorem d_X7_begin_36 : decode cX7_begin 36 = .ok (.return_, 1) := by decide +kernel
theorem d_X7_copyFrom_0 : decode cX7_copyFrom 0 = .ok (.aload_n 0, 1) := by decide +kernel
theorem d_X7_copyFrom_1 : decode cX7_copyFrom 1 = .ok (.aload_n 1, 1) := by decide +kernel
theorem d_X7_copyFrom_2 : decode cX7_copyFrom 2 = .ok (.getfield 9, 3) := by decide +kernel
theorem d_X7_copyFrom_5 : decode cX7_copyFrom 5 = .ok (.putfield 9, 3) := by decide +kernel
theorem d_X7_copyFrom_8 : decode cX7_copyFrom 8 = .ok (.aload_n 0, 1) := by decide +kernel
theorem d_X7_copyFrom_9 : decode cX7_copyFrom 9 = .ok (.aload_n 1, 1) := by decide +kernel
theorem d_X7_copyFrom_10 : decode cX7_copyFrom 10 = .ok (.getfield 15, 3) := by decide +kernel
theorem d_X7_copyFrom_13 : decode cX7_copyFrom 13 = .ok (.putfield 15, 3) := by decide +kernel
theorem d_X7_copyFrom_16 : decode cX7_copyFrom 16 = .ok (.aload_n 0, 1) := by decide +kernel
theorem d_X7_copyFrom_17 : decode cX7_copyFrom 17 = .ok (.aload_n 1, 1) := by decide +kernel
theorem d_X7_copyFrom_18 : decode cX7_copyFrom 18 = .ok (.getfield 18, 3) := by decide +kernel
theorem d_X7_copyFrom_21 : decode cX7_copyFrom 21 = .ok (.putfield 18, 3) := by decide +kernel
theorem d_X7_copyFrom_24 : decode cX7_copyFrom 24 = .ok (.aload_n 0, 1) := by decide +kernel
theorem d_X7_copyFrom_25 : decode cX7_copyFrom 25 = .ok (.aload_n 1, 1) := by decide +kernel
theorem d_X7_copyFrom_26 : decode cX7_copyFrom 26 = .ok (.getfield 21, 3) := by decide +kernel
theorem d_X7_copyFrom_29 : decode cX7_copyFrom 29 = .ok (.putfield 21, 3) := by decide +kernel
theorem d_X7_copyFrom_32 : decode cX7_copyFrom 32 = .ok (.aload_n 0, 1) := by decide +kernel
theorem d_X7_copyFrom_33 : decode cX7_copyFrom 33 = .ok (.aload_n 1, 1) := by decide +kernel
theorem d_X7_copyFrom_34 : decode cX7_copyFrom 34 = .ok (.getfield 24, 3) := by decide +kernel
theorem d_X7_copyFrom_37 : decode cX7_copyFrom 37 = .ok (.putfield 24, 3) := by decide +kernel
theorem d_X7_copyFrom_40 : decode cX7_copyFrom 40 = .ok (.aload_n 1, 1) := by decide +kernel
theorem d_X7_copyFrom_41 : decode cX7_copyFrom 41 = .ok (.getfield 28, 3) := by decide +kernel
theorem d_X7_copyFrom_44 : decode cX7_copyFrom 44 = .ok (.iconst 0, 1) := by decide +kernel
theorem d_X7_copyFrom_45 : decode cX7_copyFrom 45 = .ok (.aload_n 0, 1) := by decide +kernel
theorem d_X7_copyFrom_46 : decode cX7_copyFrom 46 = .ok (.getfield 28, 3) := by decide +kernel
theorem d_X7_copyFrom_49 : decode cX7_copyFrom 49 = .ok (.iconst 0, 1) := by decide +kernel
theorem d_X7_copyFrom_50 : decode cX7_copyFrom 50 = .ok (.bipush 100, 2) := by decide +kernel
theorem d_X7_copyFrom_52 : decode cX7_copyFrom 52 = .ok (.invokestatic 38, 3) := by decide +kernel
theorem d_X7_copyFrom_55 : decode cX7_copyFrom 55 = .ok (.return_, 1) := by decide +kernel
theorem d_X7_shiftOn_0 : decode cX7_shiftOn 0 = .ok (.iload_n 1, 1) := by decide +kernel
theorem d_X7_shiftOn_1 : decode cX7_shiftOn 1 = .ok (.istore_n 2, 1) := by decide +kernel
theorem d_X7_shiftOn_2 : decode cX7_shiftOn 2 = .ok (.iload_n 2, 1) := by decide +kernel
theorem d_X7_shiftOn_3 : decode cX7_shiftOn 3 = .ok (.ifCond .lt 21, 3) := by decide +kernel
theorem d_X7_shiftOn_6 : decode cX7_shiftOn 6 = .ok (.aload_n 0, 1) := by decide +kernel
theorem d_X7_shiftOn_7 : decode cX7_shiftOn 7 = .ok (.getfield 28, 3) := by decide +kernel
theorem d_X7_shiftOn_10 : decode cX7_shiftOn 10 = .ok (.iload_n 2, 1) := by decide +kernel
theorem d_X7_shiftOn_11 : decode cX7_shiftOn 11 = .ok (.iaload, 1) := by decide +kernel
theorem d_X7_shiftOn_12 : decode cX7_shiftOn 12 = .ok (.sipush (-1000), 3) := by decide +kernel
theorem d_X7_shiftOn_15 : decode cX7_shiftOn 15 = .ok (.if_icmp .ne 9, 3) := by decide +kernel
theorem d_X7_shiftOn_18 : decode cX7_shiftOn 18 = .ok (.iinc 2 (-1), 3) := by decide +kernel
theorem d_X7_shiftOn_21 : decode cX7_shiftOn 21 = .ok (.goto (-19), 3) := by decide +kernel
theorem d_X7_shiftOn_24 : decode cX7_shiftOn 24 = .ok (.iload_n 2, 1) := by decide +kernel
theorem d_X7_shiftOn_25 : decode cX7_shiftOn 25 = .ok (.ifCond .lt 12, 3) := by decide +kernel
theorem d_X7_shiftOn_28 : decode cX7_shiftOn 28 = .ok (.aload_n 0, 1) := by decide +kernel
theorem d_X7_shiftOn_29 : decode cX7_shiftOn 29 = .ok (.getfield 28, 3) := by decide +kernel
theorem d_X7_shiftOn_32 : decode cX7_shiftOn 32 = .ok (.iload_n 2, 1) := by decide +kernel
theorem d_X7_shiftOn_33 : decode cX7_shiftOn 33 = .ok (.iaload, 1) := by decide +kernel
theorem d_X7_shiftOn_34 : decode cX7_shiftOn 34 = .ok (.goto 4, 3) := by decide +kernel
theorem d_X7_shiftOn_37 : decode cX7_shiftOn 37 = .ok (.iconst 0, 1) := by decide +kernel
theorem d_X7_shiftOn_38 : decode cX7_shiftOn 38 = .ok (.ireturn, 1) := by decide +kernel
theorem d_X8_init_0 : decode cX8_init 0 = .ok (.aload_n 0, 1) := by decide +kernel
theorem d_X8_init_1 : decode cX8_init 1 = .ok (.invokespecial 1, 3) := by decide +kernel
theorem d_X8_init_4 : decode cX8_init 4 = .ok (.aload_n 0, 1) := by decide +kernel
theorem d_X8_init_5 : decode cX8_init 5 = .ok (.iconst 0, 1) := by decide +kernel
theorem d_X8_init_6 : decode cX8_init 6 = .ok (.putfield 7, 3) := by decide +kernel
theorem d_X8_init_9 : decode cX8_init 9 = .ok (.aload_n 0, 1) := by decide +kernel
theorem d_X8_init_10 : decode cX8_init 10 = .ok (.iconst 0, 1) := by decide +kernel
theorem d_X8_init_11 : decode cX8_init 11 = .ok (.putfield 13, 3) := by decide +kernel
theorem d_X8_init_14 : decode cX8_init 14 = .ok (.aload_n 0, 1) := by decide +kernel
theorem d_X8_init_15 : decode cX8_init 15 = .ok (.iconst 0, 1) := by decide +kernel
theorem d_X8_init_16 : decode cX8_init 16 = .ok (.putfield 16, 3) := by decide +kernel
theorem d_X8_init_19 : decode cX8_init 19 = .ok (.return_, 1) := by decide +kernel
theorem d_X8_begin_0 : decode cX8_begin 0 = .ok (.aload_n 0, 1) := by decide +kernel
theorem d_X8_begin_1 : decode cX8_begin 1 = .ok (.iload_n 1, 1) := by decide +kernel
theorem d_X8_begin_2 : decode cX8_begin 2 = .ok (.putfield 7, 3) := by decide +kernel
theorem d_X8_begin_5 : decode cX8_begin 5 = .ok (.aload_n 0, 1) := by decide +kernel
theorem d_X8_begin_6 : decode cX8_begin 6 = .ok (.iload_n 2, 1) := by decide +kernel
theorem d_X8_begin_7 : decode cX8_begin 7 = .ok (.putfield 13, 3) := by decide +kernel
theorem d_X8_begin_10 : decode cX8_begin 10 = .ok (.aload_n 0, 1) := by decide +kernel
theorem d_X8_begin_11 : decode cX8_begin 11 = .ok (.iload_n 3, 1) := by decide +kernel
theorem d_X8_begin_12 : decode cX8_begin 12 = .ok (.putfield 16, 3) := by decide +kernel
theorem d_X8_begin_15 : decode cX8_begin 15 = .ok (.return_, 1) := by decide +kernel
theorem d_X8_copyFrom_0 : decode cX8_copyFrom 0 = .ok (.aload_n 0, 1) := by decide +kernel
theorem d_X8_copyFrom_1 : decode cX8_copyFrom 1 = .ok (.aload_n 1, 1) := by decide +kernel
theorem d_X8_copyFrom_2 : decode cX8_copyFrom 2 = .ok (.getfield 7, 3) := by decide +kernel
theorem d_X8_copyFrom_5 : decode cX8_copyFrom 5 = .ok (.aload_n 1, 1) := by decide +kernel
theorem d_X8_copyFrom_6 : decode cX8_copyFrom 6 = .ok (.getfield 13, 3) := by decide +kernel
theorem d_X8_copyFrom_9 : decode cX8_copyFrom 9 = .ok (.aload_n 1, 1) := by decide +kernel
theorem d_X8_copyFrom_10 : decode cX8_copyFrom 10 = .ok (.getfield 16, 3) := by decide +kernel
theorem d_X8_copyFrom_13 : decode cX8_copyFrom 13 = .ok (.invokevirtual 19, 3) := by decide +kernel
theorem d_X8_copyFrom_16 : decode cX8_copyFrom 16 = .ok (.return_, 1) := by decide +kernel
theorem d_X8_wayBits_0 : decode cX8_wayBits 0 = .ok (.iconst 1, 1) := by decide +kernel
theorem d_X8_wayBits_1 : decode cX8_wayBits 1 = .ok (.aload_n 0, 1) := by decide +kernel
theorem d_X8_wayBits_2 : decode cX8_wayBits 2 = .ok (.getfield 7, 3) := by decide +kernel
theorem d_X8_wayBits_5 : decode cX8_wayBits 5 = .ok (.aload_n 0, 1) := by decide +kernel
theorem d_X8_wayBits_6 : decode cX8_wayBits 6 = .ok (.getfield 13, 3) := by decide +kernel
theorem d_X8_wayBits_9 : decode cX8_wayBits 9 = .ok (.invokestatic 23, 3) := by decide +kernel
theorem d_X8_wayBits_12 : decode cX8_wayBits 12 = .ok (.ishl, 1) := by decide +kernel
theorem d_X8_wayBits_13 : decode cX8_wayBits 13 = .ok (.iconst 1, 1) := by decide +kernel
theorem d_X8_wayBits_14 : decode cX8_wayBits 14 = .ok (.aload_n 0, 1) := by decide +kernel
theorem d_X8_wayBits_15 : decode cX8_wayBits 15 = .ok (.getfield 7, 3) := by decide +kernel
theorem d_X8_wayBits_18 : decode cX8_wayBits 18 = .ok (.aload_n 0, 1) := by decide +kernel
theorem d_X8_wayBits_19 : decode cX8_wayBits 19 = .ok (.getfield 13, 3) := by decide +kernel
theorem d_X8_wayBits_22 : decode cX8_wayBits 22 = .ok (.invokestatic 29, 3) := by decide +kernel
theorem d_X8_wayBits_25 : decode cX8_wayBits 25 = .ok (.ishl, 1) := by decide +kernel
theorem d_X8_wayBits_26 : decode cX8_wayBits 26 = .ok (.isub, 1) := by decide +kernel
theorem d_X8_wayBits_27 : decode cX8_wayBits 27 = .ok (.ireturn, 1) := by decide +kernel
theorem d_X9_init_0 : decode cX9_init 0 = .ok (.aload_n 0, 1) := by decide +kernel
theorem d_X9_init_1 : decode cX9_init 1 = .ok (.invokespecial 3, 3) := by decide +kernel
theorem d_X9_init_4 : decode cX9_init 4 = .ok (.aload_n 0, 1) := by decide +kernel
theorem d_X9_init_5 : decode cX9_init 5 = .ok (.iconst 0, 1) := by decide +kernel
theorem d_X9_init_6 : decode cX9_init 6 = .ok (.putfield 9, 3) := by decide +kernel
theorem d_X9_init_9 : decode cX9_init 9 = .ok (.aload_n 0, 1) := by decide +kernel
theorem d_X9_init_10 : decode cX9_init 10 = .ok (.iconst 0, 1) := by decide +kernel
theorem d_X9_init_11 : decode cX9_init 11 = .ok (.putfield 15, 3) := by decide +kernel
theorem d_X9_init_14 : decode cX9_init 14 = .ok (.aload_n 0, 1) := by decide +kernel
theorem d_X9_init_15 : decode cX9_init 15 = .ok (.bipush 10, 2) := by decide +kernel
theorem d_X9_init_17 : decode cX9_init 17 = .ok (.newarray .int, 2) := by decide +kernel
theorem d_X9_init_19 : decode cX9_init 19 = .ok (.putfield 18, 3) := by decide +kernel
theorem d_X9_init_22 : decode cX9_init 22 = .ok (.aload_n 0, 1) := by decide +kernel
theorem d_X9_init_23 : decode cX9_init 23 = .ok (.bipush 10, 2) := by decide +kernel
theorem d_X9_init_25 : decode cX9_init 25 = .ok (.newarray .int, 2) := by decide +kernel
theorem d_X9_init_27 : decode cX9_init 27 = .ok (.putfield 22, 3) := by decide +kernel
theorem d_X9_init_30 : decode cX9_init 30 = .ok (.aload_n 0, 1) := by decide +kernel
theorem d_X9_init_31 : decode cX9_init 31 = .ok (.sipush 1100, 3) := by decide +kernel
theorem d_X9_init_34 : decode cX9_init 34 = .ok (.newarray .int, 2) := by decide +kernel
theorem d_X9_init_36 : decode cX9_init 36 = .ok (.putfield 25, 3) := by decide +kernel
theorem d_X9_init_39 : decode cX9_init 39 = .ok (.return_, 1) := by decide +kernel
theorem d_X9_workOut_0 : decode cX9_workOut 0 = .ok (.aload_n 0, 1) := by decide +kernel
theorem d_X9_workOut_1 : decode cX9_workOut 1 = .ok (.iload_n 2, 1) := by decide +kernel
theorem d_X9_workOut_2 : decode cX9_workOut 2 = .ok (.putfield 15, 3) := by decide +kernel
theorem d_X9_workOut_5 : decode cX9_workOut 5 = .ok (.aload_n 0, 1) := by decide +kernel
theorem d_X9_workOut_6 : decode cX9_workOut 6 = .ok (.iload 4, 2) := by decide +kernel
theorem d_X9_workOut_8 : decode cX9_workOut 8 = .ok (.iload_n 3, 1) := by decide +kernel
theorem d_X9_workOut_9 : decode cX9_workOut 9 = .ok (.isub, 1) := by decide +kernel
theorem d_X9_workOut_10 : decode cX9_workOut 10 = .ok (.invokestatic 28, 3) := by decide +kernel
theorem d_X9_workOut_13 : decode cX9_workOut 13 = .ok (.putfield 9, 3) := by decide +kernel
theorem d_X9_workOut_16 : decode cX9_workOut 16 = .ok (.iload 4, 2) := by decide +kernel
theorem d_X9_workOut_18 : decode cX9_workOut 18 = .ok (.iload_n 3, 1) := by decide +kernel
theorem d_X9_workOut_19 : decode cX9_workOut 19 = .ok (.if_icmp .le 7, 3) := by decide +kernel
theorem d_X9_workOut_22 : decode cX9_workOut 22 = .ok (.iconst 1, 1) := by decide +kernel
theorem d_X9_workOut_23 : decode cX9_workOut 23 = .ok (.goto 4, 3) := by decide +kernel
theorem d_X9_workOut_26 : decode cX9_workOut 26 = .ok (.iconst 0, 1) := by decide +kernel
theorem d_X9_workOut_27 : decode cX9_workOut 27 = .ok (.istore 5, 2) := by decide +kernel
theorem d_X9_workOut_29 : decode cX9_workOut 29 = .ok (.iconst 0, 1) := by decide +kernel
theorem d_X9_workOut_30 : decode cX9_workOut 30 = .ok (.istore 6, 2) := by decide +kernel
theorem d_X9_workOut_32 : decode cX9_workOut 32 = .ok (.iload 6, 2) := by decide +kernel
theorem d_X9_workOut_34 : decode cX9_workOut 34 = .ok (.aload_n 0, 1) := by decide +kernel
theorem d_X9_workOut_35 : decode cX9_workOut 35 = .ok (.getfield 9, 3) := by decide +kernel
theorem d_X9_workOut_38 : decode cX9_workOut 38 = .ok (.if_icmp .ge 69, 3) := by decide +kernel
theorem d_X9_workOut_41 : decode cX9_workOut 41 = .ok (.iload 5, 2) := by decide +kernel
theorem d_X9_workOut_43 : decode cX9_workOut 43 = .ok (.ifCond .eq 10, 3) := by decide +kernel
theorem d_X9_workOut_46 : decode cX9_workOut 46 = .ok (.iload_n 3, 1) := by decide +kernel
theorem d_X9_workOut_47 : decode cX9_workOut 47 = .ok (.iload 6, 2) := by decide +kernel
theorem d_X9_workOut_49 : decode cX9_workOut 49 = .ok (.iadd, 1) := by decide +kernel
theorem d_X9_workOut_50 : decode cX9_workOut 50 = .ok (.goto 7, 3) := by decide +kernel
theorem d_X9_workOut_53 : decode cX9_workOut 53 = .ok (.iload_n 3, 1) := by decide +kernel
theorem d_X9_workOut_54 : decode cX9_workOut 54 = .ok (.iload 6, 2) := by decide +kernel
theorem d_X9_workOut_56 : decode cX9_workOut 56 = .ok (.isub, 1) := by decide +kernel
theorem d_X9_workOut_57 : decode cX9_workOut 57 = .ok (.istore 7, 2) := by decide +kernel
theorem d_X9_workOut_59 : decode cX9_workOut 59 = .ok (.aload_n 0, 1) := by decide +kernel
theorem d_X9_workOut_60 : decode cX9_workOut 60 = .ok (.getfield 18, 3) := by decide +kernel
theorem d_X9_workOut_63 : decode cX9_workOut 63 = .ok (.iload 6, 2) := by decide +kernel
theorem d_X9_workOut_65 : decode cX9_workOut 65 = .ok (.aload_n 1, 1) := by decide +kernel
theorem d_X9_workOut_66 : decode cX9_workOut 66 = .ok (.getfield 34, 3) := by decide +kernel
theorem d_X9_workOut_69 : decode cX9_workOut 69 = .ok (.iload 7, 2) := by decide +kernel
theorem d_X9_workOut_71 : decode cX9_workOut 71 = .ok (.aaload, 1) := by decide +kernel
theorem d_X9_workOut_72 : decode cX9_workOut 72 = .ok (.getfield 40, 3) := by decide +kernel
theorem d_X9_workOut_75 : decode cX9_workOut 75 = .ok (.iastore, 1) := by decide +kernel
theorem d_X9_workOut_76 : decode cX9_workOut 76 = .ok (.aload_n 0, 1) := by decide +kernel
theorem d_X9_workOut_77 : decode cX9_workOut 77 = .ok (.getfield 22, 3) := by decide +kernel
theorem d_X9_workOut_80 : decode cX9_workOut 80 = .ok (.iload 6, 2) := by decide +kernel
theorem d_X9_workOut_82 : decode cX9_workOut 82 = .ok (.aload_n 1, 1) := by decide +kernel
theorem d_X9_workOut_83 : decode cX9_workOut 83 = .ok (.iload 5, 2) := by decide +kernel
theorem d_X9_workOut_85 : decode cX9_workOut 85 = .ok (.ifCond .eq 8, 3) := by decide +kernel
theorem d_X9_workOut_88 : decode cX9_workOut 88 = .ok (.iload 7, 2) := by decide +kernel
theorem d_X9_workOut_90 : decode cX9_workOut 90 = .ok (.goto 7, 3) := by decide +kernel
theorem d_X9_workOut_93 : decode cX9_workOut 93 = .ok (.iload 7, 2) := by decide +kernel
theorem d_X9_workOut_95 : decode cX9_workOut 95 = .ok (.iconst 1, 1) := by decide +kernel
theorem d_X9_workOut_96 : decode cX9_workOut 96 = .ok (.isub, 1) := by decide +kernel
theorem d_X9_workOut_97 : decode cX9_workOut 97 = .ok (.invokevirtual 45, 3) := by decide +kernel
theorem d_X9_workOut_100 : decode cX9_workOut 100 = .ok (.iastore, 1) := by decide +kernel
theorem d_X9_workOut_101 : decode cX9_workOut 101 = .ok (.iinc 6 1, 3) := by decide +kernel
theorem d_X9_workOut_104 : decode cX9_workOut 104 = .ok (.goto (-72), 3) := by decide +kernel
theorem d_X9_workOut_107 : decode cX9_workOut 107 = .ok (.iconst 0, 1) := by decide +kernel
theorem d_X9_workOut_108 : decode cX9_workOut 108 = .ok (.istore 6, 2) := by decide +kernel
theorem d_X9_workOut_110 : decode cX9_workOut 110 = .ok (.iload 6, 2) := by decide +kernel
theorem d_X9_workOut_112 : decode cX9_workOut 112 = .ok (.aload_n 0, 1) := by decide +kernel
theorem d_X9_workOut_113 : decode cX9_workOut 113 = .ok (.getfield 15, 3) := by decide +kernel
theorem d_X9_workOut_116 : decode cX9_workOut 116 = .ok (.if_icmp .gt 25, 3) := by decide +kernel
theorem d_X9_workOut_119 : decode cX9_workOut 119 = .ok (.aload_n 0, 1) := by decide +kernel
theorem d_X9_workOut_120 : decode cX9_workOut 120 = .ok (.getfield 25, 3) := by decide +kernel
theorem d_X9_workOut_123 : decode cX9_workOut 123 = .ok (.aload_n 0, 1) := by decide +kernel
theorem d_X9_workOut_124 : decode cX9_workOut 124 = .ok (.getfield 9, 3) := by decide +kernel
theorem d_X9_workOut_127 : decode cX9_workOut 127 = .ok (.bipush 100, 2) := by decide +kernel
theorem d_X9_workOut_129 : decode cX9_workOut 129 = .ok (.imul, 1) := by decide +kernel
theorem d_X9_workOut_130 : decode cX9_workOut 130 = .ok (.iload 6, 2) := by decide +kernel
theorem d_X9_workOut_132 : decode cX9_workOut 132 = .ok (.iadd, 1) := by decide +kernel
theorem d_X9_workOut_133 : decode cX9_workOut 133 = .ok (.iconst 0, 1) := by decide +kernel
theorem d_X9_workOut_134 : decode cX9_workOut 134 = .ok (.iastore, 1) := by decide +kernel
theorem d_X9_workOut_135 : decode cX9_workOut 135 = .ok (.iinc 6 1, 3) := by decide +kernel
theorem d_X9_workOut_138 : decode cX9_workOut 138 = .ok (.goto (-28), 3) := by decide +kernel
theorem d_X9_workOut_141 : decode cX9_workOut 141 = .ok (.aload_n 0, 1) := by decide +kernel
theorem d_X9_workOut_142 : decode cX9_workOut 142 = .ok (.getfield 9, 3) := by decide +kernel
theorem d_X9_workOut_145 : decode cX9_workOut 145 = .ok (.iconst 1, 1) := by decide +kernel
theorem d_X9_workOut_146 : decode cX9_workOut 146 = .ok (.isub, 1) := by decide +kernel
theorem d_X9_workOut_147 : decode cX9_workOut 147 = .ok (.istore 6, 2) := by decide +kernel
theorem d_X9_workOut_149 : decode cX9_workOut 149 = .ok (.iload 6, 2) := by decide +kernel
theorem d_X9_workOut_151 : decode cX9_workOut 151 = .ok (.ifCond .lt 15, 3) := by decide +kernel
theorem d_X9_workOut_154 : decode cX9_workOut 154 = .ok (.aload_n 0, 1) := by decide +kernel
theorem d_X9_workOut_155 : decode cX9_workOut 155 = .ok (.iload 6, 2) := by decide +kernel
theorem d_X9_workOut_157 : decode cX9_workOut 157 = .ok (.invokevirtual 48, 3) := by decide +kernel
theorem d_X9_workOut_160 : decode cX9_workOut 160 = .ok (.iinc 6 (-1), 3) := by decide +kernel
theorem d_X9_workOut_163 : decode cX9_workOut 163 = .ok (.goto (-14), 3) := by decide +kernel
theorem d_X9_workOut_166 : decode cX9_workOut 166 = .ok (.return_, 1) := by decide +kernel
theorem d_X9_workOutStep_0 : decode cX9_workOutStep 0 = .ok (.aload_n 0, 1) := by decide +kernel
theorem d_X9_workOutStep_1 : decode cX9_workOutStep 1 = .ok (.getfield 18, 3) := by decide +kernel
theorem d_X9_workOutStep_4 : decode cX9_workOutStep 4 = .ok (.iload_n 1, 1) := by decide +kernel
theorem d_X9_workOutStep_5 : decode cX9_workOutStep 5 = .ok (.iaload, 1) := by decide +kernel
theorem d_X9_workOutStep_6 : decode cX9_workOutStep 6 = .ok (.istore_n 2, 1) := by decide +kernel
theorem d_X9_workOutStep_7 : decode cX9_workOutStep 7 = .ok (.ldc 52, 2) := by decide +kernel
theorem d_X9_workOutStep_9 : decode cX9_workOutStep 9 = .ok (.istore_n 3, 1) := by decide +kernel
theorem d_X9_workOutStep_10 : decode cX9_workOutStep 10 = .ok (.aload_n 0, 1) := by decide +kernel
theorem d_X9_workOutStep_11 : decode cX9_workOutStep 11 = .ok (.getfield 15, 3) := by decide +kernel
theorem d_X9_workOutStep_14 : decode cX9_workOutStep 14 = .ok (.istore 4, 2) := by decide +kernel
theorem d_X9_workOutStep_16 : decode cX9_workOutStep 16 = .ok (.iload 4, 2) := by decide +kernel
theorem d_X9_workOutStep_18 : decode cX9_workOutStep 18 = .ok (.ifCond .lt 88, 3) := by decide +kernel
theorem d_X9_workOutStep_21 : decode cX9_workOutStep 21 = .ok (.aload_n 0, 1) := by decide +kernel
theorem d_X9_workOutStep_22 : decode cX9_workOutStep 22 = .ok (.iload_n 1, 1) := by decide +kernel
theorem d_X9_workOutStep_23 : decode cX9_workOutStep 23 = .ok (.iload 4, 2) := by decide +kernel
theorem d_X9_workOutStep_25 : decode cX9_workOutStep 25 = .ok (.invokevirtual 53, 3) := by decide +kernel
theorem d_X9_workOutStep_28 : decode cX9_workOutStep 28 = .ok (.istore 5, 2) := by decide +kernel
theorem d_X9_workOutStep_30 : decode cX9_workOutStep 30 = .ok (.iload_n 2, 1) := by decide +kernel
theorem d_X9_workOutStep_31 : decode cX9_workOutStep 31 = .ok (.ifCond .ne 9, 3) := by decide +kernel
theorem d_X9_workOutStep_34 : decode cX9_workOutStep 34 = .ok (.iload 5, 2) := by decide +kernel
theorem d_X9_workOutStep_36 : decode cX9_workOutStep 36 = .ok (.istore_n 3, 1) := by decide +kernel
theorem d_X9_workOutStep_37 : decode cX9_workOutStep 37 = .ok (.goto 22, 3) := by decide +kernel
theorem d_X9_workOutStep_40 : decode cX9_workOutStep 40 = .ok (.iload 5, 2) := by decide +kernel
theorem d_X9_workOutStep_42 : decode cX9_workOutStep 42 = .ok (.ldc 52, 2) := by decide +kernel
theorem d_X9_workOutStep_44 : decode cX9_workOutStep 44 = .ok (.if_icmp .eq 15, 3) := by decide +kernel
theorem d_X9_workOutStep_47 : decode cX9_workOutStep 47 = .ok (.iload_n 3, 1) := by decide +kernel
theorem d_X9_workOutStep_48 : decode cX9_workOutStep 48 = .ok (.iload 5, 2) := by decide +kernel
theorem d_X9_workOutStep_50 : decode cX9_workOutStep 50 = .ok (.iload_n 2, 1) := by decide +kernel
theorem d_X9_workOutStep_51 : decode cX9_workOutStep 51 = .ok (.iload 4, 2) := by decide +kernel
theorem d_X9_workOutStep_53 : decode cX9_workOutStep 53 = .ok (.imul, 1) := by decide +kernel
theorem d_X9_workOutStep_54 : decode cX9_workOutStep 54 = .ok (.iadd, 1) := by decide +kernel
theorem d_X9_workOutStep_55 : decode cX9_workOutStep 55 = .ok (.invokestatic 57, 3) := by decide +kernel
theorem d_X9_workOutStep_58 : decode cX9_workOutStep 58 = .ok (.istore_n 3, 1) := by decide +kernel
theorem d_X9_workOutStep_59 : decode cX9_workOutStep 59 = .ok (.iload_n 3, 1) := by decide +kernel
theorem d_X9_workOutStep_60 : decode cX9_workOutStep 60 = .ok (.ldc 52, 2) := by decide +kernel
theorem d_X9_workOutStep_62 : decode cX9_workOutStep 62 = .ok (.if_icmp .eq 7, 3) := by decide +kernel
theorem d_X9_workOutStep_65 : decode cX9_workOutStep 65 = .ok (.iconst 1, 1) := by decide +kernel
theorem d_X9_workOutStep_66 : decode cX9_workOutStep 66 = .ok (.goto 4, 3) := by decide +kernel
theorem d_X9_workOutStep_69 : decode cX9_workOutStep 69 = .ok (.iconst 0, 1) := by decide +kernel
theorem d_X9_workOutStep_70 : decode cX9_workOutStep 70 = .ok (.istore 6, 2) := by decide +kernel
theorem d_X9_workOutStep_72 : decode cX9_workOutStep 72 = .ok (.aload_n 0, 1) := by decide +kernel
theorem d_X9_workOutStep_73 : decode cX9_workOutStep 73 = .ok (.getfield 25, 3) := by decide +kernel
theorem d_X9_workOutStep_76 : decode cX9_workOutStep 76 = .ok (.iload_n 1, 1) := by decide +kernel
theorem d_X9_workOutStep_77 : decode cX9_workOutStep 77 = .ok (.bipush 100, 2) := by decide +kernel
theorem d_X9_workOutStep_79 : decode cX9_workOutStep 79 = .ok (.imul, 1) := by decide +kernel
theorem d_X9_workOutStep_80 : decode cX9_workOutStep 80 = .ok (.iload 4, 2) := by decide +kernel
theorem d_X9_workOutStep_82 : decode cX9_workOutStep 82 = .ok (.iadd, 1) := by decide +kernel
theorem d_X9_workOutStep_83 : decode cX9_workOutStep 83 = .ok (.iload 6, 2) := by decide +kernel
theorem d_X9_workOutStep_85 : decode cX9_workOutStep 85 = .ok (.ifCond .eq 12, 3) := by decide +kernel
theorem d_X9_workOutStep_88 : decode cX9_workOutStep 88 = .ok (.iload_n 3, 1) := by decide +kernel
theorem d_X9_workOutStep_89 : decode cX9_workOutStep 89 = .ok (.iload_n 2, 1) := by decide +kernel
theorem d_X9_workOutStep_90 : decode cX9_workOutStep 90 = .ok (.iload 4, 2) := by decide +kernel
theorem d_X9_workOutStep_92 : decode cX9_workOutStep 92 = .ok (.imul, 1) := by decide +kernel
theorem d_X9_workOutStep_93 : decode cX9_workOutStep 93 = .ok (.isub, 1) := by decide +kernel
theorem d_X9_workOutStep_94 : decode cX9_workOutStep 94 = .ok (.goto 5, 3) := by decide +kernel
theorem d_X9_workOutStep_97 : decode cX9_workOutStep 97 = .ok (.ldc 52, 2) := by decide +kernel
theorem d_X9_workOutStep_99 : decode cX9_workOutStep 99 = .ok (.iastore, 1) := by decide +kernel
theorem d_X9_workOutStep_100 : decode cX9_workOutStep 100 = .ok (.iinc 4 (-1), 3) := by decide +kernel
theorem d_X9_workOutStep_103 : decode cX9_workOutStep 103 = .ok (.goto (-87), 3) := by decide +kernel
theorem d_X9_workOutStep_106 : decode cX9_workOutStep 106 = .ok (.return_, 1) := by decide +kernel
theorem d_X9_costOnward_0 : decode cX9_costOnward 0 = .ok (.iload_n 2, 1) := by decide +kernel
theorem d_X9_costOnward_1 : decode cX9_costOnward 1 = .ok (.aload_n 0, 1) := by decide +kernel
theorem d_X9_costOnward_2 : decode cX9_costOnward 2 = .ok (.getfield 22, 3) := by decide +kernel
theorem d_X9_costOnward_5 : decode cX9_costOnward 5 = .ok (.iload_n 1, 1) := by decide +kernel
theorem d_X9_costOnward_6 : decode cX9_costOnward 6 = .ok (.iaload, 1) := by decide +kernel
theorem d_X9_costOnward_7 : decode cX9_costOnward 7 = .ok (.isub, 1) := by decide +kernel
theorem d_X9_costOnward_8 : decode cX9_costOnward 8 = .ok (.istore_n 3, 1) := by decide +kernel
theorem d_X9_costOnward_9 : decode cX9_costOnward 9 = .ok (.iload_n 3, 1) := by decide +kernel
theorem d_X9_costOnward_10 : decode cX9_costOnward 10 = .ok (.ifCond .ge 8, 3) := by decide +kernel
theorem d_X9_costOnward_13 : decode cX9_costOnward 13 = .ok (.ldc 52, 2) := by decide +kernel
theorem d_X9_costOnward_15 : decode cX9_costOnward 15 = .ok (.goto 16, 3) := by decide +kernel
theorem d_X9_costOnward_18 : decode cX9_costOnward 18 = .ok (.aload_n 0, 1) := by decide +kernel
theorem d_X9_costOnward_19 : decode cX9_costOnward 19 = .ok (.getfield 25, 3) := by decide +kernel
theorem d_X9_costOnward_22 : decode cX9_costOnward 22 = .ok (.iload_n 1, 1) := by decide +kernel
theorem d_X9_costOnward_23 : decode cX9_costOnward 23 = .ok (.iconst 1, 1) := by decide +kernel
theorem d_X9_costOnward_24 : decode cX9_costOnward 24 = .ok (.iadd, 1) := by decide +kernel
theorem d_X9_costOnward_25 : decode cX9_costOnward 25 = .ok (.bipush 100, 2) := by decide +kernel
theorem d_X9_costOnward_27 : decode cX9_costOnward 27 = .ok (.imul, 1) := by decide +kernel
theorem d_X9_costOnward_28 : decode cX9_costOnward 28 = .ok (.iload_n 3, 1) := by decide +kernel
theorem d_X9_costOnward_29 : decode cX9_costOnward 29 = .ok (.iadd, 1) := by decide +kernel
theorem d_X9_costOnward_30 : decode cX9_costOnward 30 = .ok (.iaload, 1) := by decide +kernel
theorem d_X9_costOnward_31 : decode cX9_costOnward 31 = .ok (.ireturn, 1) := by decide +kernel
theorem d_X9_leastCost_0 : decode cX9_leastCost 0 = .ok (.aload_n 0, 1) := by decide +kernel
theorem d_X9_leastCost_1 : decode cX9_leastCost 1 = .ok (.getfield 25, 3) := by decide +kernel
theorem d_X9_leastCost_4 : decode cX9_leastCost 4 = .ok (.iconst 0, 1) := by decide +kernel
theorem d_X9_leastCost_5 : decode cX9_leastCost 5 = .ok (.iaload, 1) := by decide +kernel
theorem d_X9_leastCost_6 : decode cX9_leastCost 6 = .ok (.ldc 52, 2) := by decide +kernel
theorem d_X9_leastCost_8 : decode cX9_leastCost 8 = .ok (.if_icmp .ne 7, 3) := by decide +kernel
theorem d_X9_leastCost_11 : decode cX9_leastCost 11 = .ok (.iconst (-1), 1) := by decide +kernel
theorem d_X9_leastCost_12 : decode cX9_leastCost 12 = .ok (.goto 9, 3) := by decide +kernel
theorem d_X9_leastCost_15 : decode cX9_leastCost 15 = .ok (.aload_n 0, 1) := by decide +kernel
theorem d_X9_leastCost_16 : decode cX9_leastCost 16 = .ok (.getfield 25, 3) := by decide +kernel
theorem d_X9_leastCost_19 : decode cX9_leastCost 19 = .ok (.iconst 0, 1) := by decide +kernel
theorem d_X9_leastCost_20 : decode cX9_leastCost 20 = .ok (.iaload, 1) := by decide +kernel
theorem d_X9_leastCost_21 : decode cX9_leastCost 21 = .ok (.ireturn, 1) := by decide +kernel
theorem d_X9_cordsAt_0 : decode cX9_cordsAt 0 = .ok (.iload_n 1, 1) := by decide +kernel
theorem d_X9_cordsAt_1 : decode cX9_cordsAt 1 = .ok (.iconst 0, 1) := by decide +kernel
theorem d_X9_cordsAt_2 : decode cX9_cordsAt 2 = .ok (.aload_n 0, 1) := by decide +kernel
theorem d_X9_cordsAt_3 : decode cX9_cordsAt 3 = .ok (.getfield 9, 3) := by decide +kernel
theorem d_X9_cordsAt_6 : decode cX9_cordsAt 6 = .ok (.iconst 1, 1) := by decide +kernel
theorem d_X9_cordsAt_7 : decode cX9_cordsAt 7 = .ok (.isub, 1) := by decide +kernel
theorem d_X9_cordsAt_8 : decode cX9_cordsAt 8 = .ok (.invokestatic 60, 3) := by decide +kernel
theorem d_X9_cordsAt_11 : decode cX9_cordsAt 11 = .ok (.ifCond .eq 14, 3) := by decide +kernel
theorem d_X9_cordsAt_14 : decode cX9_cordsAt 14 = .ok (.aload_n 0, 1) := by decide +kernel
theorem d_X9_cordsAt_15 : decode cX9_cordsAt 15 = .ok (.getfield 25, 3) := by decide +kernel
theorem d_X9_cordsAt_18 : decode cX9_cordsAt 18 = .ok (.iconst 0, 1) := by decide +kernel
theorem d_X9_cordsAt_19 : decode cX9_cordsAt 19 = .ok (.iaload, 1) := by decide +kernel
theorem d_X9_cordsAt_20 : decode cX9_cordsAt 20 = .ok (.ldc 52, 2) := by decide +kernel
theorem d_X9_cordsAt_22 : decode cX9_cordsAt 22 = .ok (.if_icmp .ne 5, 3) := by decide +kernel
theorem d_X9_cordsAt_25 : decode cX9_cordsAt 25 = .ok (.iconst (-1), 1) := by decide +kernel
theorem d_X9_cordsAt_26 : decode cX9_cordsAt 26 = .ok (.ireturn, 1) := by decide +kernel
theorem d_X9_cordsAt_27 : decode cX9_cordsAt 27 = .ok (.iconst 0, 1) := by decide +kernel
theorem d_X9_cordsAt_28 : decode cX9_cordsAt 28 = .ok (.istore_n 2, 1) := by decide +kernel
theorem d_X9_cordsAt_29 : decode cX9_cordsAt 29 = .ok (.iconst 0, 1) := by decide +kernel
theorem d_X9_cordsAt_30 : decode cX9_cordsAt 30 = .ok (.istore_n 3, 1) := by decide +kernel
theorem d_X9_cordsAt_31 : decode cX9_cordsAt 31 = .ok (.iload_n 3, 1) := by decide +kernel
theorem d_X9_cordsAt_32 : decode cX9_cordsAt 32 = .ok (.iload_n 1, 1) := by decide +kernel
theorem d_X9_cordsAt_33 : decode cX9_cordsAt 33 = .ok (.if_icmp .ge 25, 3) := by decide +kernel
theorem d_X9_cordsAt_36 : decode cX9_cordsAt 36 = .ok (.iload_n 2, 1) := by decide +kernel
theorem d_X9_cordsAt_37 : decode cX9_cordsAt 37 = .ok (.aload_n 0, 1) := by decide +kernel
theorem d_X9_cordsAt_38 : decode cX9_cordsAt 38 = .ok (.iload_n 3, 1) := by decide +kernel
theorem d_X9_cordsAt_39 : decode cX9_cordsAt 39 = .ok (.iload_n 2, 1) := by decide +kernel
theorem d_X9_cordsAt_40 : decode cX9_cordsAt 40 = .ok (.invokevirtual 64, 3) := by decide +kernel
theorem d_X9_cordsAt_43 : decode cX9_cordsAt 43 = .ok (.aload_n 0, 1) := by decide +kernel
theorem d_X9_cordsAt_44 : decode cX9_cordsAt 44 = .ok (.getfield 22, 3) := by decide +kernel
theorem d_X9_cordsAt_47 : decode cX9_cordsAt 47 = .ok (.iload_n 3, 1) := by decide +kernel
theorem d_X9_cordsAt_48 : decode cX9_cordsAt 48 = .ok (.iaload, 1) := by decide +kernel
theorem d_X9_cordsAt_49 : decode cX9_cordsAt 49 = .ok (.isub, 1) := by decide +kernel
theorem d_X9_cordsAt_50 : decode cX9_cordsAt 50 = .ok (.iadd, 1) := by decide +kernel
theorem d_X9_cordsAt_51 : decode cX9_cordsAt 51 = .ok (.istore_n 2, 1) := by decide +kernel
theorem d_X9_cordsAt_52 : decode cX9_cordsAt 52 = .ok (.iinc 3 1, 3) := by decide +kernel
theorem d_X9_cordsAt_55 : decode cX9_cordsAt 55 = .ok (.goto (-24), 3) := by decide +kernel
theorem d_X9_cordsAt_58 : decode cX9_cordsAt 58 = .ok (.aload_n 0, 1) := by decide +kernel
theorem d_X9_cordsAt_59 : decode cX9_cordsAt 59 = .ok (.iload_n 1, 1) := by decide +kernel
theorem d_X9_cordsAt_60 : decode cX9_cordsAt 60 = .ok (.iload_n 2, 1) := by decide +kernel
theorem d_X9_cordsAt_61 : decode cX9_cordsAt 61 = .ok (.invokevirtual 64, 3) := by decide +kernel
theorem d_X9_cordsAt_64 : decode cX9_cordsAt 64 = .ok (.ireturn, 1) := by decide +kernel
theorem d_X9_cordsFrom_0 : decode cX9_cordsFrom 0 = .ok (.aload_n 0, 1) := by decide +kernel
theorem d_X9_cordsFrom_1 : decode cX9_cordsFrom 1 = .ok (.getfield 25, 3) := by decide +kernel
theorem d_X9_cordsFrom_4 : decode cX9_cordsFrom 4 = .ok (.iload_n 1, 1) := by decide +kernel
theorem d_X9_cordsFrom_5 : decode cX9_cordsFrom 5 = .ok (.bipush 100, 2) := by decide +kernel
theorem d_X9_cordsFrom_7 : decode cX9_cordsFrom 7 = .ok (.imul, 1) := by decide +kernel
theorem d_X9_cordsFrom_8 : decode cX9_cordsFrom 8 = .ok (.iload_n 2, 1) := by decide +kernel
theorem d_X9_cordsFrom_9 : decode cX9_cordsFrom 9 = .ok (.iadd, 1) := by decide +kernel
theorem d_X9_cordsFrom_10 : decode cX9_cordsFrom 10 = .ok (.iaload, 1) := by decide +kernel
theorem d_X9_cordsFrom_11 : decode cX9_cordsFrom 11 = .ok (.istore_n 3, 1) := by decide +kernel
theorem d_X9_cordsFrom_12 : decode cX9_cordsFrom 12 = .ok (.iconst 0, 1) := by decide +kernel
theorem d_X9_cordsFrom_13 : decode cX9_cordsFrom 13 = .ok (.istore 4, 2) := by decide +kernel
theorem d_X9_cordsFrom_15 : decode cX9_cordsFrom 15 = .ok (.iload_n 2, 1) := by decide +kernel
theorem d_X9_cordsFrom_16 : decode cX9_cordsFrom 16 = .ok (.iload 4, 2) := by decide +kernel
theorem d_X9_cordsFrom_18 : decode cX9_cordsFrom 18 = .ok (.iadd, 1) := by decide +kernel
theorem d_X9_cordsFrom_19 : decode cX9_cordsFrom 19 = .ok (.aload_n 0, 1) := by decide +kernel
theorem d_X9_cordsFrom_20 : decode cX9_cordsFrom 20 = .ok (.getfield 15, 3) := by decide +kernel
theorem d_X9_cordsFrom_23 : decode cX9_cordsFrom 23 = .ok (.if_icmp .gt 46, 3) := by decide +kernel
theorem d_X9_cordsFrom_26 : decode cX9_cordsFrom 26 = .ok (.aload_n 0, 1) := by decide +kernel
theorem d_X9_cordsFrom_27 : decode cX9_cordsFrom 27 = .ok (.iload_n 1, 1) := by decide +kernel
theorem d_X9_cordsFrom_28 : decode cX9_cordsFrom 28 = .ok (.iload_n 2, 1) := by decide +kernel
theorem d_X9_cordsFrom_29 : decode cX9_cordsFrom 29 = .ok (.iload 4, 2) := by decide +kernel
theorem d_X9_cordsFrom_31 : decode cX9_cordsFrom 31 = .ok (.iadd, 1) := by decide +kernel
theorem d_X9_cordsFrom_32 : decode cX9_cordsFrom 32 = .ok (.invokevirtual 53, 3) := by decide +kernel
theorem d_X9_cordsFrom_35 : decode cX9_cordsFrom 35 = .ok (.istore 5, 2) := by decide +kernel
theorem d_X9_cordsFrom_37 : decode cX9_cordsFrom 37 = .ok (.iload 5, 2) := by decide +kernel
theorem d_X9_cordsFrom_39 : decode cX9_cordsFrom 39 = .ok (.ldc 52, 2) := by decide +kernel
theorem d_X9_cordsFrom_41 : decode cX9_cordsFrom 41 = .ok (.if_icmp .eq 22, 3) := by decide +kernel
theorem d_X9_cordsFrom_44 : decode cX9_cordsFrom 44 = .ok (.iload 5, 2) := by decide +kernel
theorem d_X9_cordsFrom_46 : decode cX9_cordsFrom 46 = .ok (.iload 4, 2) := by decide +kernel
theorem d_X9_cordsFrom_48 : decode cX9_cordsFrom 48 = .ok (.aload_n 0, 1) := by decide +kernel
theorem d_X9_cordsFrom_49 : decode cX9_cordsFrom 49 = .ok (.getfield 18, 3) := by decide +kernel
theorem d_X9_cordsFrom_52 : decode cX9_cordsFrom 52 = .ok (.iload_n 1, 1) := by decide +kernel
theorem d_X9_cordsFrom_53 : decode cX9_cordsFrom 53 = .ok (.iaload, 1) := by decide +kernel
theorem d_X9_cordsFrom_54 : decode cX9_cordsFrom 54 = .ok (.imul, 1) := by decide +kernel
theorem d_X9_cordsFrom_55 : decode cX9_cordsFrom 55 = .ok (.iadd, 1) := by decide +kernel
theorem d_X9_cordsFrom_56 : decode cX9_cordsFrom 56 = .ok (.iload_n 3, 1) := by decide +kernel
theorem d_X9_cordsFrom_57 : decode cX9_cordsFrom 57 = .ok (.if_icmp .ne 6, 3) := by decide +kernel
theorem d_X9_cordsFrom_60 : decode cX9_cordsFrom 60 = .ok (.iload 4, 2) := by decide +kernel
theorem d_X9_cordsFrom_62 : decode cX9_cordsFrom 62 = .ok (.ireturn, 1) := by decide +kernel
theorem d_X9_cordsFrom_63 : decode cX9_cordsFrom 63 = .ok (.iinc 4 1, 3) := by decide +kernel
theorem d_X9_cordsFrom_66 : decode cX9_cordsFrom 66 = .ok (.goto (-51), 3) := by decide +kernel
theorem d_X9_cordsFrom_69 : decode cX9_cordsFrom 69 = .ok (.iconst 0, 1) := by decide +kernel
theorem d_X9_cordsFrom_70 : decode cX9_cordsFrom 70 = .ok (.ireturn, 1) := by decide +kernel
theorem d_X10_init_0 : decode cX10_init 0 = .ok (.aload_n 0, 1) := by decide +kernel
theorem d_X10_init_1 : decode cX10_init 1 = .ok (.invokespecial 3, 3) := by decide +kernel
theorem d_X10_init_4 : decode cX10_init 4 = .ok (.aload_n 0, 1) := by decide +kernel
theorem d_X10_init_5 : decode cX10_init 5 = .ok (.bipush 10, 2) := by decide +kernel
theorem d_X10_init_7 : decode cX10_init 7 = .ok (.newarray .int, 2) := by decide +kernel
theorem d_X10_init_9 : decode cX10_init 9 = .ok (.putfield 9, 3) := by decide +kernel
theorem d_X10_init_12 : decode cX10_init 12 = .ok (.aload_n 0, 1) := by decide +kernel
theorem d_X10_init_13 : decode cX10_init 13 = .ok (.bipush 10, 2) := by decide +kernel
theorem d_X10_init_15 : decode cX10_init 15 = .ok (.newarray .int, 2) := by decide +kernel
theorem d_X10_init_17 : decode cX10_init 17 = .ok (.putfield 15, 3) := by decide +kernel
theorem d_X10_init_20 : decode cX10_init 20 = .ok (.aload_n 0, 1) := by decide +kernel
theorem d_X10_init_21 : decode cX10_init 21 = .ok (.getfield 15, 3) := by decide +kernel
theorem d_X10_init_24 : decode cX10_init 24 = .ok (.iconst (-1), 1) := by decide +kernel
theorem d_X10_init_25 : decode cX10_init 25 = .ok (.invokestatic 18, 3) := by decide +kernel
theorem d_X10_init_28 : decode cX10_init 28 = .ok (.return_, 1) := by decide +kernel
theorem d_X10_forgetAll_0 : decode cX10_forgetAll 0 = .ok (.aload_n 0, 1) := by decide +kernel
theorem d_X10_forgetAll_1 : decode cX10_forgetAll 1 = .ok (.getfield 15, 3) := by decide +kernel
theorem d_X10_forgetAll_4 : decode cX10_forgetAll 4 = .ok (.iconst (-1), 1) := by decide +kernel
theorem d_X10_forgetAll_5 : decode cX10_forgetAll 5 = .ok (.invokestatic 18, 3) := by decide +kernel
theorem d_X10_forgetAll_8 : decode cX10_forgetAll 8 = .ok (.return_, 1) := by decide +kernel
theorem d_X10_copyFrom_0 : decode cX10_copyFrom 0 = .ok (.aload_n 1, 1) := by decide +kernel
theorem d_X10_copyFrom_1 : decode cX10_copyFrom 1 = .ok (.getfield 9, 3) := by decide +kernel
theorem d_X10_copyFrom_4 : decode cX10_copyFrom 4 = .ok (.iconst 0, 1) := by decide +kernel
theorem d_X10_copyFrom_5 : decode cX10_copyFrom 5 = .ok (.aload_n 0, 1) := by decide +kernel
theorem d_X10_copyFrom_6 : decode cX10_copyFrom 6 = .ok (.getfield 9, 3) := by decide +kernel
theorem d_X10_copyFrom_9 : decode cX10_copyFrom 9 = .ok (.iconst 0, 1) := by decide +kernel
theorem d_X10_copyFrom_10 : decode cX10_copyFrom 10 = .ok (.bipush 10, 2) := by decide +kernel
theorem d_X10_copyFrom_12 : decode cX10_copyFrom 12 = .ok (.invokestatic 24, 3) := by decide +kernel
theorem d_X10_copyFrom_15 : decode cX10_copyFrom 15 = .ok (.aload_n 1, 1) := by decide +kernel
theorem d_X10_copyFrom_16 : decode cX10_copyFrom 16 = .ok (.getfield 15, 3) := by decide +kernel
theorem d_X10_copyFrom_19 : decode cX10_copyFrom 19 = .ok (.iconst 0, 1) := by decide +kernel
theorem d_X10_copyFrom_20 : decode cX10_copyFrom 20 = .ok (.aload_n 0, 1) := by decide +kernel
theorem d_X10_copyFrom_21 : decode cX10_copyFrom 21 = .ok (.getfield 15, 3) := by decide +kernel
theorem d_X10_copyFrom_24 : decode cX10_copyFrom 24 = .ok (.iconst 0, 1) := by decide +kernel
theorem d_X10_copyFrom_25 : decode cX10_copyFrom 25 = .ok (.bipush 10, 2) := by decide +kernel
theorem d_X10_copyFrom_27 : decode cX10_copyFrom 27 = .ok (.invokestatic 24, 3) := by decide +kernel
theorem d_X10_copyFrom_30 : decode cX10_copyFrom 30 = .ok (.return_, 1) := by decide +kernel
theorem d_X10_isKnown_0 : decode cX10_isKnown 0 = .ok (.aload_n 0, 1) := by decide +kernel
theorem d_X10_isKnown_1 : decode cX10_isKnown 1 = .ok (.getfield 15, 3) := by decide +kernel
theorem d_X10_isKnown_4 : decode cX10_isKnown 4 = .ok (.iload_n 1, 1) := by decide +kernel
theorem d_X10_isKnown_5 : decode cX10_isKnown 5 = .ok (.iaload, 1) := by decide +kernel
theorem d_X10_isKnown_6 : decode cX10_isKnown 6 = .ok (.iconst (-1), 1) := by decide +kernel
theorem d_X10_isKnown_7 : decode cX10_isKnown 7 = .ok (.if_icmp .eq 7, 3) := by decide +kernel
theorem d_X10_isKnown_10 : decode cX10_isKnown 10 = .ok (.iconst 1, 1) := by decide +kernel
theorem d_X10_isKnown_11 : decode cX10_isKnown 11 = .ok (.goto 4, 3) := by decide +kernel
theorem d_X10_isKnown_14 : decode cX10_isKnown 14 = .ok (.iconst 0, 1) := by decide +kernel
theorem d_X10_isKnown_15 : decode cX10_isKnown 15 = .ok (.ireturn, 1) := by decide +kernel
theorem d_X10_learn_0 : decode cX10_learn 0 = .ok (.aload_n 0, 1) := by decide +kernel
theorem d_X10_learn_1 : decode cX10_learn 1 = .ok (.getfield 9, 3) := by decide +kernel
theorem d_X10_learn_4 : decode cX10_learn 4 = .ok (.iload_n 1, 1) := by decide +kernel
theorem d_X10_learn_5 : decode cX10_learn 5 = .ok (.iload_n 2, 1) := by decide +kernel
theorem d_X10_learn_6 : decode cX10_learn 6 = .ok (.iastore, 1) := by decide +kernel
theorem d_X10_learn_7 : decode cX10_learn 7 = .ok (.aload_n 0, 1) := by decide +kernel
theorem d_X10_learn_8 : decode cX10_learn 8 = .ok (.getfield 15, 3) := by decide +kernel
theorem d_X10_learn_11 : decode cX10_learn 11 = .ok (.iload_n 1, 1) := by decide +kernel
theorem d_X10_learn_12 : decode cX10_learn 12 = .ok (.iload_n 3, 1) := by decide +kernel
theorem d_X10_learn_13 : decode cX10_learn 13 = .ok (.iastore, 1) := by decide +kernel
theorem d_X10_learn_14 : decode cX10_learn 14 = .ok (.return_, 1) := by decide +kernel
theorem d_X10_exchange_0 : decode cX10_exchange 0 = .ok (.iconst 0, 1) := by decide +kernel
theorem d_X10_exchange_1 : decode cX10_exchange 1 = .ok (.istore_n 2, 1) := by decide +kernel
theorem d_X10_exchange_2 : decode cX10_exchange 2 = .ok (.iload_n 2, 1) := by decide +kernel
theorem d_X10_exchange_3 : decode cX10_exchange 3 = .ok (.bipush 10, 2) := by decide +kernel
theorem d_X10_exchange_5 : decode cX10_exchange 5 = .ok (.if_icmp .ge 76, 3) := by decide +kernel
theorem d_X10_exchange_8 : decode cX10_exchange 8 = .ok (.aload_n 0, 1) := by decide +kernel
theorem d_X10_exchange_9 : decode cX10_exchange 9 = .ok (.getfield 15, 3) := by decide +kernel
theorem d_X10_exchange_12 : decode cX10_exchange 12 = .ok (.iload_n 2, 1) := by decide +kernel
theorem d_X10_exchange_13 : decode cX10_exchange 13 = .ok (.iaload, 1) := by decide +kernel
theorem d_X10_exchange_14 : decode cX10_exchange 14 = .ok (.aload_n 1, 1) := by decide +kernel
theorem d_X10_exchange_15 : decode cX10_exchange 15 = .ok (.getfield 15, 3) := by decide +kernel
theorem d_X10_exchange_18 : decode cX10_exchange 18 = .ok (.iload_n 2, 1) := by decide +kernel
theorem d_X10_exchange_19 : decode cX10_exchange 19 = .ok (.iaload, 1) := by decide +kernel
theorem d_X10_exchange_20 : decode cX10_exchange 20 = .ok (.if_icmp .le 23, 3) := by decide +kernel
theorem d_X10_exchange_23 : decode cX10_exchange 23 = .ok (.aload_n 1, 1) := by decide +kernel
theorem d_X10_exchange_24 : decode cX10_exchange 24 = .ok (.iload_n 2, 1) := by decide +kernel
theorem d_X10_exchange_25 : decode cX10_exchange 25 = .ok (.aload_n 0, 1) := by decide +kernel
theorem d_X10_exchange_26 : decode cX10_exchange 26 = .ok (.getfield 9, 3) := by decide +kernel
theorem d_X10_exchange_29 : decode cX10_exchange 29 = .ok (.iload_n 2, 1) := by decide +kernel
theorem d_X10_exchange_30 : decode cX10_exchange 30 = .ok (.iaload, 1) := by decide +kernel
theorem d_X10_exchange_31 : decode cX10_exchange 31 = .ok (.aload_n 0, 1) := by decide +kernel
theorem d_X10_exchange_32 : decode cX10_exchange 32 = .ok (.getfield 15, 3) := by decide +kernel
theorem d_X10_exchange_35 : decode cX10_exchange 35 = .ok (.iload_n 2, 1) := by decide +kernel
theorem d_X10_exchange_36 : decode cX10_exchange 36 = .ok (.iaload, 1) := by decide +kernel
theorem d_X10_exchange_37 : decode cX10_exchange 37 = .ok (.invokevirtual 30, 3) := by decide +kernel
theorem d_X10_exchange_40 : decode cX10_exchange 40 = .ok (.goto 35, 3) := by decide +kernel
theorem d_X10_exchange_43 : decode cX10_exchange 43 = .ok (.aload_n 0, 1) := by decide +kernel
theorem d_X10_exchange_44 : decode cX10_exchange 44 = .ok (.getfield 15, 3) := by decide +kernel
theorem d_X10_exchange_47 : decode cX10_exchange 47 = .ok (.iload_n 2, 1) := by decide +kernel
theorem d_X10_exchange_48 : decode cX10_exchange 48 = .ok (.iaload, 1) := by decide +kernel
theorem d_X10_exchange_49 : decode cX10_exchange 49 = .ok (.aload_n 1, 1) := by decide +kernel
theorem d_X10_exchange_50 : decode cX10_exchange 50 = .ok (.getfield 15, 3) := by decide +kernel
theorem d_X10_exchange_53 : decode cX10_exchange 53 = .ok (.iload_n 2, 1) := by decide +kernel
theorem d_X10_exchange_54 : decode cX10_exchange 54 = .ok (.iaload, 1) := by decide +kernel
theorem d_X10_exchange_55 : decode cX10_exchange 55 = .ok (.if_icmp .ge 20, 3) := by decide +kernel
theorem d_X10_exchange_58 : decode cX10_exchange 58 = .ok (.aload_n 0, 1) := by decide +kernel
theorem d_X10_exchange_59 : decode cX10_exchange 59 = .ok (.iload_n 2, 1) := by decide +kernel
theorem d_X10_exchange_60 : decode cX10_exchange 60 = .ok (.aload_n 1, 1) := by decide +kernel
theorem d_X10_exchange_61 : decode cX10_exchange 61 = .ok (.getfield 9, 3) := by decide +kernel
theorem d_X10_exchange_64 : decode cX10_exchange 64 = .ok (.iload_n 2, 1) := by decide +kernel
theorem d_X10_exchange_65 : decode cX10_exchange 65 = .ok (.iaload, 1) := by decide +kernel
theorem d_X10_exchange_66 : decode cX10_exchange 66 = .ok (.aload_n 1, 1) := by decide +kernel
theorem d_X10_exchange_67 : decode cX10_exchange 67 = .ok (.getfield 15, 3) := by decide +kernel
theorem d_X10_exchange_70 : decode cX10_exchange 70 = .ok (.iload_n 2, 1) := by decide +kernel
theorem d_X10_exchange_71 : decode cX10_exchange 71 = .ok (.iaload, 1) := by decide +kernel
theorem d_X10_exchange_72 : decode cX10_exchange 72 = .ok (.invokevirtual 30, 3) := by decide +kernel
theorem d_X10_exchange_75 : decode cX10_exchange 75 = .ok (.iinc 2 1, 3) := by decide +kernel
theorem d_X10_exchange_78 : decode cX10_exchange 78 = .ok (.goto (-76), 3) := by decide +kernel
theorem d_X10_exchange_81 : decode cX10_exchange 81 = .ok (.return_, 1) := by decide +kernel
theorem d_X10_toldOf_0 : decode cX10_toldOf 0 = .ok (.aload_n 0, 1) := by decide +kernel
theorem d_X10_toldOf_1 : decode cX10_toldOf 1 = .ok (.iload_n 1, 1) := by decide +kernel
theorem d_X10_toldOf_2 : decode cX10_toldOf 2 = .ok (.invokevirtual 34, 3) := by decide +kernel
theorem d_X10_toldOf_5 : decode cX10_toldOf 5 = .ok (.ifCond .eq 12, 3) := by decide +kernel
theorem d_X10_toldOf_8 : decode cX10_toldOf 8 = .ok (.iload_n 2, 1) := by decide +kernel
theorem d_X10_toldOf_9 : decode cX10_toldOf 9 = .ok (.iconst 0, 1) := by decide +kernel
theorem d_X10_toldOf_10 : decode cX10_toldOf 10 = .ok (.iconst 1, 1) := by decide +kernel
theorem d_X10_toldOf_11 : decode cX10_toldOf 11 = .ok (.invokestatic 38, 3) := by decide +kernel
theorem d_X10_toldOf_14 : decode cX10_toldOf 14 = .ok (.ifCond .ne 7, 3) := by decide +kernel
theorem d_X10_toldOf_17 : decode cX10_toldOf 17 = .ok (.sipush (-1000), 3) := by decide +kernel
theorem d_X10_toldOf_20 : decode cX10_toldOf 20 = .ok (.ireturn, 1) := by decide +kernel
theorem d_X10_toldOf_21 : decode cX10_toldOf 21 = .ok (.iload_n 2, 1) := by decide +kernel
theorem d_X10_toldOf_22 : decode cX10_toldOf 22 = .ok (.ifCond .ne 12, 3) := by decide +kernel
theorem d_X10_toldOf_25 : decode cX10_toldOf 25 = .ok (.aload_n 0, 1) := by decide +kernel
theorem d_X10_toldOf_26 : decode cX10_toldOf 26 = .ok (.getfield 9, 3) := by decide +kernel
theorem d_X10_toldOf_29 : decode cX10_toldOf 29 = .ok (.iload_n 1, 1) := by decide +kernel
theorem d_X10_toldOf_30 : decode cX10_toldOf 30 = .ok (.iaload, 1) := by decide +kernel
theorem d_X10_toldOf_31 : decode cX10_toldOf 31 = .ok (.goto 9, 3) := by decide +kernel
theorem d_X10_toldOf_34 : decode cX10_toldOf 34 = .ok (.aload_n 0, 1) := by decide +kernel
theorem d_X10_toldOf_35 : decode cX10_toldOf 35 = .ok (.getfield 15, 3) := by decide +kernel
theorem d_X10_toldOf_38 : decode cX10_toldOf 38 = .ok (.iload_n 1, 1) := by decide +kernel
theorem d_X10_toldOf_39 : decode cX10_toldOf 39 = .ok (.iaload, 1) := by decide +kernel
theorem d_X10_toldOf_40 : decode cX10_toldOf 40 = .ok (.ireturn, 1) := by decide +kernel
theorem d_J_abs_0 : decode cJ_abs 0 = .ok (.iload_n 0, 1) := by decide +kernel
theorem d_J_abs_1 : decode cJ_abs 1 = .ok (.ifCond .ge 8, 3) := by decide +kernel
theorem d_J_abs_4 : decode cJ_abs 4 = .ok (.iload_n 0, 1) := by decide +kernel
theorem d_J_abs_5 : decode cJ_abs 5 = .ok (.ineg, 1) := by decide +kernel
theorem d_J_abs_6 : decode cJ_abs 6 = .ok (.goto 4, 3) := by decide +kernel
theorem d_J_abs_9 : decode cJ_abs 9 = .ok (.iload_n 0, 1) := by decide +kernel
theorem d_J_abs_10 : decode cJ_abs 10 = .ok (.ireturn, 1) := by decide +kernel
theorem d_J_max_0 : decode cJ_max 0 = .ok (.iload_n 0, 1) := by decide +kernel
theorem d_J_max_1 : decode cJ_max 1 = .ok (.iload_n 1, 1) := by decide +kernel
theorem d_J_max_2 : decode cJ_max 2 = .ok (.if_icmp .lt 7, 3) := by decide +kernel
theorem d_J_max_5 : decode cJ_max 5 = .ok (.iload_n 0, 1) := by decide +kernel
theorem d_J_max_6 : decode cJ_max 6 = .ok (.goto 4, 3) := by decide +kernel
theorem d_J_max_9 : decode cJ_max 9 = .ok (.iload_n 1, 1) := by decide +kernel
theorem d_J_max_10 : decode cJ_max 10 = .ok (.ireturn, 1) := by decide +kernel
theorem d_J_min_0 : decode cJ_min 0 = .ok (.iload_n 0, 1) := by decide +kernel
theorem d_J_min_1 : decode cJ_min 1 = .ok (.iload_n 1, 1) := by decide +kernel
theorem d_J_min_2 : decode cJ_min 2 = .ok (.if_icmp .gt 7, 3) := by decide +kernel
theorem d_J_min_5 : decode cJ_min 5 = .ok (.iload_n 0, 1) := by decide +kernel
theorem d_J_min_6 : decode cJ_min 6 = .ok (.goto 4, 3) := by decide +kernel
theorem d_J_min_9 : decode cJ_min 9 = .ok (.iload_n 1, 1) := by decide +kernel
theorem d_J_min_10 : decode cJ_min 10 = .ok (.ireturn, 1) := by decide +kernel
theorem d_J_floorMod_0 : decode cJ_floorMod 0 = .ok (.iload_n 0, 1) := by decide +kernel
theorem d_J_floorMod_1 : decode cJ_floorMod 1 = .ok (.iload_n 1, 1) := by decide +kernel
theorem d_J_floorMod_2 : decode cJ_floorMod 2 = .ok (.irem, 1) := by decide +kernel
theorem d_J_floorMod_3 : decode cJ_floorMod 3 = .ok (.istore_n 2, 1) := by decide +kernel
theorem d_J_floorMod_4 : decode cJ_floorMod 4 = .ok (.iload_n 0, 1) := by decide +kernel
theorem d_J_floorMod_5 : decode cJ_floorMod 5 = .ok (.iload_n 1, 1) := by decide +kernel
theorem d_J_floorMod_6 : decode cJ_floorMod 6 = .ok (.ixor, 1) := by decide +kernel
theorem d_J_floorMod_7 : decode cJ_floorMod 7 = .ok (.ifCond .ge 11, 3) := by decide +kernel
theorem d_J_floorMod_10 : decode cJ_floorMod 10 = .ok (.iload_n 2, 1) := by decide +kernel
theorem d_J_floorMod_11 : decode cJ_floorMod 11 = .ok (.ifCond .eq 7, 3) := by decide +kernel
theorem d_J_floorMod_14 : decode cJ_floorMod 14 = .ok (.iload_n 2, 1) := by decide +kernel
theorem d_J_floorMod_15 : decode cJ_floorMod 15 = .ok (.iload_n 1, 1) := by decide +kernel
theorem d_J_floorMod_16 : decode cJ_floorMod 16 = .ok (.iadd, 1) := by decide +kernel
theorem d_J_floorMod_17 : decode cJ_floorMod 17 = .ok (.ireturn, 1) := by decide +kernel
theorem d_J_floorMod_18 : decode cJ_floorMod 18 = .ok (.iload_n 2, 1) := by decide +kernel
theorem d_J_floorMod_19 : decode cJ_floorMod 19 = .ok (.ireturn, 1) := by decide +kernel
theorem d_J_fill_0 : decode cJ_fill 0 = .ok (.iconst 0, 1) := by decide +kernel
theorem d_J_fill_1 : decode cJ_fill 1 = .ok (.istore_n 2, 1) := by decide +kernel
theorem d_J_fill_2 : decode cJ_fill 2 = .ok (.aload_n 0, 1) := by decide +kernel
theorem d_J_fill_3 : decode cJ_fill 3 = .ok (.arraylength, 1) := by decide +kernel
theorem d_J_fill_4 : decode cJ_fill 4 = .ok (.istore_n 3, 1) := by decide +kernel
theorem d_J_fill_5 : decode cJ_fill 5 = .ok (.iload_n 2, 1) := by decide +kernel
theorem d_J_fill_6 : decode cJ_fill 6 = .ok (.iload_n 3, 1) := by decide +kernel
theorem d_J_fill_7 : decode cJ_fill 7 = .ok (.if_icmp .ge 13, 3) := by decide +kernel
theorem d_J_fill_10 : decode cJ_fill 10 = .ok (.aload_n 0, 1) := by decide +kernel
theorem d_J_fill_11 : decode cJ_fill 11 = .ok (.iload_n 2, 1) := by decide +kernel
theorem d_J_fill_12 : decode cJ_fill 12 = .ok (.iload_n 1, 1) := by decide +kernel
theorem d_J_fill_13 : decode cJ_fill 13 = .ok (.iastore, 1) := by decide +kernel
theorem d_J_fill_14 : decode cJ_fill 14 = .ok (.iinc 2 1, 3) := by decide +kernel
theorem d_J_fill_17 : decode cJ_fill 17 = .ok (.goto (-12), 3) := by decide +kernel
theorem d_J_fill_20 : decode cJ_fill 20 = .ok (.return_, 1) := by decide +kernel
theorem d_J_bitCount_0 : decode cJ_bitCount 0 = .ok (.iload_n 0, 1) := by decide +kernel
theorem d_J_bitCount_1 : decode cJ_bitCount 1 = .ok (.iload_n 0, 1) := by decide +kernel
theorem d_J_bitCount_2 : decode cJ_bitCount 2 = .ok (.iconst 1, 1) := by decide +kernel
theorem d_J_bitCount_3 : decode cJ_bitCount 3 = .ok (.iushr, 1) := by decide +kernel
theorem d_J_bitCount_4 : decode cJ_bitCount 4 = .ok (.ldc_w 265, 3) := by decide +kernel
theorem d_J_bitCount_7 : decode cJ_bitCount 7 = .ok (.iand, 1) := by decide +kernel
theorem d_J_bitCount_8 : decode cJ_bitCount 8 = .ok (.isub, 1) := by decide +kernel
theorem d_J_bitCount_9 : decode cJ_bitCount 9 = .ok (.istore_n 0, 1) := by decide +kernel
theorem d_J_bitCount_10 : decode cJ_bitCount 10 = .ok (.iload_n 0, 1) := by decide +kernel
theorem d_J_bitCount_11 : decode cJ_bitCount 11 = .ok (.ldc_w 266, 3) := by decide +kernel
theorem d_J_bitCount_14 : decode cJ_bitCount 14 = .ok (.iand, 1) := by decide +kernel
theorem d_J_bitCount_15 : decode cJ_bitCount 15 = .ok (.iload_n 0, 1) := by decide +kernel
theorem d_J_bitCount_16 : decode cJ_bitCount 16 = .ok (.iconst 2, 1) := by decide +kernel
theorem d_J_bitCount_17 : decode cJ_bitCount 17 = .ok (.iushr, 1) := by decide +kernel
theorem d_J_bitCount_18 : decode cJ_bitCount 18 = .ok (.ldc_w 266, 3) := by decide +kernel
theorem d_J_bitCount_21 : decode cJ_bitCount 21 = .ok (.iand, 1) := by decide +kernel
theorem d_J_bitCount_22 : decode cJ_bitCount 22 = .ok (.iadd, 1) := by decide +kernel
theorem d_J_bitCount_23 : decode cJ_bitCount 23 = .ok (.istore_n 0, 1) := by decide +kernel
theorem d_J_bitCount_24 : decode cJ_bitCount 24 = .ok (.iload_n 0, 1) := by decide +kernel
theorem d_J_bitCount_25 : decode cJ_bitCount 25 = .ok (.iload_n 0, 1) := by decide +kernel
theorem d_J_bitCount_26 : decode cJ_bitCount 26 = .ok (.iconst 4, 1) := by decide +kernel
theorem d_J_bitCount_27 : decode cJ_bitCount 27 = .ok (.iushr, 1) := by decide +kernel
theorem d_J_bitCount_28 : decode cJ_bitCount 28 = .ok (.iadd, 1) := by decide +kernel
theorem d_J_bitCount_29 : decode cJ_bitCount 29 = .ok (.ldc_w 267, 3) := by decide +kernel
theorem d_J_bitCount_32 : decode cJ_bitCount 32 = .ok (.iand, 1) := by decide +kernel
theorem d_J_bitCount_33 : decode cJ_bitCount 33 = .ok (.istore_n 0, 1) := by decide +kernel
theorem d_J_bitCount_34 : decode cJ_bitCount 34 = .ok (.iload_n 0, 1) := by decide +kernel
theorem d_J_bitCount_35 : decode cJ_bitCount 35 = .ok (.iload_n 0, 1) := by decide +kernel
theorem d_J_bitCount_36 : decode cJ_bitCount 36 = .ok (.bipush 8, 2) := by decide +kernel
theorem d_J_bitCount_38 : decode cJ_bitCount 38 = .ok (.iushr, 1) := by decide +kernel
theorem d_J_bitCount_39 : decode cJ_bitCount 39 = .ok (.iadd, 1) := by decide +kernel
theorem d_J_bitCount_40 : decode cJ_bitCount 40 = .ok (.istore_n 0, 1) := by decide +kernel
theorem d_J_bitCount_41 : decode cJ_bitCount 41 = .ok (.iload_n 0, 1) := by decide +kernel
theorem d_J_bitCount_42 : decode cJ_bitCount 42 = .ok (.iload_n 0, 1) := by decide +kernel
theorem d_J_bitCount_43 : decode cJ_bitCount 43 = .ok (.bipush 16, 2) := by decide +kernel
theorem d_J_bitCount_45 : decode cJ_bitCount 45 = .ok (.iushr, 1) := by decide +kernel
theorem d_J_bitCount_46 : decode cJ_bitCount 46 = .ok (.iadd, 1) := by decide +kernel
theorem d_J_bitCount_47 : decode cJ_bitCount 47 = .ok (.istore_n 0, 1) := by decide +kernel
theorem d_J_bitCount_48 : decode cJ_bitCount 48 = .ok (.iload_n 0, 1) := by decide +kernel
theorem d_J_bitCount_49 : decode cJ_bitCount 49 = .ok (.bipush 63, 2) := by decide +kernel
theorem d_J_bitCount_51 : decode cJ_bitCount 51 = .ok (.iand, 1) := by decide +kernel
theorem d_J_bitCount_52 : decode cJ_bitCount 52 = .ok (.ireturn, 1) := by decide +kernel
end
