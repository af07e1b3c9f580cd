section
-- ===== PART A: goes FIRST, ahead of the names: the tables' words, and 'selects' of the private methods out of them =====
/-- a private method of a class that the tables say can be made, by its rows of tables_1 -/
def lw_okq (q : MethodName × Nat) : Prop := (q.1.cls ≠ "java/lang/invoke/MethodHandle" ∧ q.1.cls ≠ "java/lang/invoke/VarHandle") ∧ Cond.instantiable q.1.cls q.2 ∈ tables_1 ∧ Cond.privateMethod q.1 ∈ tables_1 ∧ Cond.instanceMethod q.1 ∈ tables_1
theorem lw_p0 : lw_okq (⟨"RiverSteamers", "refused", "(I)I"⟩, 8) := ⟨⟨by decide +kernel, by decide +kernel⟩, List.mem_of_getElem? (i := 19) (by decide +kernel), List.mem_of_getElem? (i := 388) (by decide +kernel), List.mem_of_getElem? (i := 389) (by decide +kernel)⟩
theorem lw_p1 : lw_okq (⟨"RiverSteamers$Stretch", "begin", "(IIII)V"⟩, 6) := ⟨⟨by decide +kernel, by decide +kernel⟩, List.mem_of_getElem? (i := 47) (by decide +kernel), List.mem_of_getElem? (i := 392) (by decide +kernel), List.mem_of_getElem? (i := 393) (by decide +kernel)⟩
theorem lw_p2 : lw_okq (⟨"RiverSteamers", "done", "(I)I"⟩, 8) := ⟨⟨by decide +kernel, by decide +kernel⟩, List.mem_of_getElem? (i := 19) (by decide +kernel), List.mem_of_getElem? (i := 397) (by decide +kernel), List.mem_of_getElem? (i := 398) (by decide +kernel)⟩
theorem lw_p3 : lw_okq (⟨"RiverSteamers$River", "tellHeight", "(II)V"⟩, 16) := ⟨⟨by decide +kernel, by decide +kernel⟩, List.mem_of_getElem? (i := 27) (by decide +kernel), List.mem_of_getElem? (i := 408) (by decide +kernel), List.mem_of_getElem? (i := 409) (by decide +kernel)⟩
theorem lw_p4 : lw_okq (⟨"RiverSteamers$River", "isStretch", "(I)Z"⟩, 16) := ⟨⟨by decide +kernel, by decide +kernel⟩, List.mem_of_getElem? (i := 27) (by decide +kernel), List.mem_of_getElem? (i := 416) (by decide +kernel), List.mem_of_getElem? (i := 417) (by decide +kernel)⟩
theorem lw_p5 : lw_okq (⟨"RiverSteamers$River", "isLanding", "(I)Z"⟩, 16) := ⟨⟨by decide +kernel, by decide +kernel⟩, List.mem_of_getElem? (i := 27) (by decide +kernel), List.mem_of_getElem? (i := 438) (by decide +kernel), List.mem_of_getElem? (i := 439) (by decide +kernel)⟩
theorem lw_p6 : lw_okq (⟨"RiverSteamers$Boat", "begin", "(IIII)V"⟩, 10) := ⟨⟨by decide +kernel, by decide +kernel⟩, List.mem_of_getElem? (i := 117) (by decide +kernel), List.mem_of_getElem? (i := 442) (by decide +kernel), List.mem_of_getElem? (i := 443) (by decide +kernel)⟩
theorem lw_p7 : lw_okq (⟨"RiverSteamers$Words", "forgetAll", "()V"⟩, 2) := ⟨⟨by decide +kernel, by decide +kernel⟩, List.mem_of_getElem? (i := 92) (by decide +kernel), List.mem_of_getElem? (i := 446) (by decide +kernel), List.mem_of_getElem? (i := 447) (by decide +kernel)⟩
theorem lw_p8 : lw_okq (⟨"RiverSteamers$River", "isWay", "(II)Z"⟩, 16) := ⟨⟨by decide +kernel, by decide +kernel⟩, List.mem_of_getElem? (i := 27) (by decide +kernel), List.mem_of_getElem? (i := 454) (by decide +kernel), List.mem_of_getElem? (i := 455) (by decide +kernel)⟩
theorem lw_p9 : lw_okq (⟨"RiverSteamers$Bale", "begin", "(IIII)V"⟩, 5) := ⟨⟨by decide +kernel, by decide +kernel⟩, List.mem_of_getElem? (i := 170) (by decide +kernel), List.mem_of_getElem? (i := 459) (by decide +kernel), List.mem_of_getElem? (i := 460) (by decide +kernel)⟩
theorem lw_p10 : lw_okq (⟨"RiverSteamers$River", "isBale", "(I)Z"⟩, 16) := ⟨⟨by decide +kernel, by decide +kernel⟩, List.mem_of_getElem? (i := 27) (by decide +kernel), List.mem_of_getElem? (i := 467) (by decide +kernel), List.mem_of_getElem? (i := 468) (by decide +kernel)⟩
theorem lw_p11 : lw_okq (⟨"RiverSteamers$River", "isBoat", "(I)Z"⟩, 16) := ⟨⟨by decide +kernel, by decide +kernel⟩, List.mem_of_getElem? (i := 27) (by decide +kernel), List.mem_of_getElem? (i := 471) (by decide +kernel), List.mem_of_getElem? (i := 472) (by decide +kernel)⟩
theorem lw_p12 : lw_okq (⟨"RiverSteamers$Boat", "draught", "()I"⟩, 10) := ⟨⟨by decide +kernel, by decide +kernel⟩, List.mem_of_getElem? (i := 117) (by decide +kernel), List.mem_of_getElem? (i := 475) (by decide +kernel), List.mem_of_getElem? (i := 476) (by decide +kernel)⟩
theorem lw_p13 : lw_okq (⟨"RiverSteamers$Boat", "draughtWith", "(I)I"⟩, 10) := ⟨⟨by decide +kernel, by decide +kernel⟩, List.mem_of_getElem? (i := 117) (by decide +kernel), List.mem_of_getElem? (i := 479) (by decide +kernel), List.mem_of_getElem? (i := 480) (by decide +kernel)⟩
theorem lw_p14 : lw_okq (⟨"RiverSteamers$River", "carrierOf", "(LRiverSteamers$Bale;)LRiverSteamers$Boat;"⟩, 16) := ⟨⟨by decide +kernel, by decide +kernel⟩, List.mem_of_getElem? (i := 27) (by decide +kernel), List.mem_of_getElem? (i := 487) (by decide +kernel), List.mem_of_getElem? (i := 488) (by decide +kernel)⟩
theorem lw_p15 : lw_okq (⟨"RiverSteamers$River", "whyNot", "(LRiverSteamers$Boat;Z)I"⟩, 16) := ⟨⟨by decide +kernel, by decide +kernel⟩, List.mem_of_getElem? (i := 27) (by decide +kernel), List.mem_of_getElem? (i := 500) (by decide +kernel), List.mem_of_getElem? (i := 501) (by decide +kernel)⟩
def lw_privs_1 : List (MethodName × Nat) := [(⟨"RiverSteamers", "refused", "(I)I"⟩, 8), (⟨"RiverSteamers$Stretch", "begin", "(IIII)V"⟩, 6), (⟨"RiverSteamers", "done", "(I)I"⟩, 8), (⟨"RiverSteamers$River", "tellHeight", "(II)V"⟩, 16), (⟨"RiverSteamers$River", "isStretch", "(I)Z"⟩, 16), (⟨"RiverSteamers$River", "isLanding", "(I)Z"⟩, 16), (⟨"RiverSteamers$Boat", "begin", "(IIII)V"⟩, 10), (⟨"RiverSteamers$Words", "forgetAll", "()V"⟩, 2), (⟨"RiverSteamers$River", "isWay", "(II)Z"⟩, 16), (⟨"RiverSteamers$Bale", "begin", "(IIII)V"⟩, 5), (⟨"RiverSteamers$River", "isBale", "(I)Z"⟩, 16), (⟨"RiverSteamers$River", "isBoat", "(I)Z"⟩, 16), (⟨"RiverSteamers$Boat", "draught", "()I"⟩, 10), (⟨"RiverSteamers$Boat", "draughtWith", "(I)I"⟩, 10), (⟨"RiverSteamers$River", "carrierOf", "(LRiverSteamers$Bale;)LRiverSteamers$Boat;"⟩, 16), (⟨"RiverSteamers$River", "whyNot", "(LRiverSteamers$Boat;Z)I"⟩, 16)]
theorem lw_r1 : ∀ q ∈ lw_privs_1, lw_okq q := List.forall_mem_cons.mpr ⟨lw_p0, List.forall_mem_cons.mpr ⟨lw_p1, List.forall_mem_cons.mpr ⟨lw_p2, List.forall_mem_cons.mpr ⟨lw_p3, List.forall_mem_cons.mpr ⟨lw_p4, List.forall_mem_cons.mpr ⟨lw_p5, List.forall_mem_cons.mpr ⟨lw_p6, List.forall_mem_cons.mpr ⟨lw_p7, List.forall_mem_cons.mpr ⟨lw_p8, List.forall_mem_cons.mpr ⟨lw_p9, List.forall_mem_cons.mpr ⟨lw_p10, List.forall_mem_cons.mpr ⟨lw_p11, List.forall_mem_cons.mpr ⟨lw_p12, List.forall_mem_cons.mpr ⟨lw_p13, List.forall_mem_cons.mpr ⟨lw_p14, List.forall_mem_cons.mpr ⟨lw_p15, fun _ h => absurd h List.not_mem_nil⟩⟩⟩⟩⟩⟩⟩⟩⟩⟩⟩⟩⟩⟩⟩⟩
theorem lw_p16 : lw_okq (⟨"RiverSteamers$Boat", "stretchToward", "(Z)I"⟩, 10) := ⟨⟨by decide +kernel, by decide +kernel⟩, List.mem_of_getElem? (i := 117) (by decide +kernel), List.mem_of_getElem? (i := 504) (by decide +kernel), List.mem_of_getElem? (i := 505) (by decide +kernel)⟩
theorem lw_p17 : lw_okq (⟨"RiverSteamers$Words", "isKnown", "(I)Z"⟩, 2) := ⟨⟨by decide +kernel, by decide +kernel⟩, List.mem_of_getElem? (i := 92) (by decide +kernel), List.mem_of_getElem? (i := 509) (by decide +kernel), List.mem_of_getElem? (i := 510) (by decide +kernel)⟩
theorem lw_p18 : lw_okq (⟨"RiverSteamers$River", "longNow", "(I)I"⟩, 16) := ⟨⟨by decide +kernel, by decide +kernel⟩, List.mem_of_getElem? (i := 27) (by decide +kernel), List.mem_of_getElem? (i := 514) (by decide +kernel), List.mem_of_getElem? (i := 515) (by decide +kernel)⟩
theorem lw_p19 : lw_okq (⟨"RiverSteamers$River", "isNight", "()Z"⟩, 16) := ⟨⟨by decide +kernel, by decide +kernel⟩, List.mem_of_getElem? (i := 27) (by decide +kernel), List.mem_of_getElem? (i := 518) (by decide +kernel), List.mem_of_getElem? (i := 519) (by decide +kernel)⟩
theorem lw_p20 : lw_okq (⟨"RiverSteamers$River", "longByDaylight", "(I)I"⟩, 16) := ⟨⟨by decide +kernel, by decide +kernel⟩, List.mem_of_getElem? (i := 27) (by decide +kernel), List.mem_of_getElem? (i := 522) (by decide +kernel), List.mem_of_getElem? (i := 523) (by decide +kernel)⟩
theorem lw_p21 : lw_okq (⟨"RiverSteamers$River", "today", "()I"⟩, 16) := ⟨⟨by decide +kernel, by decide +kernel⟩, List.mem_of_getElem? (i := 27) (by decide +kernel), List.mem_of_getElem? (i := 526) (by decide +kernel), List.mem_of_getElem? (i := 527) (by decide +kernel)⟩
theorem lw_p22 : lw_okq (⟨"RiverSteamers$River", "heightOn", "(I)I"⟩, 16) := ⟨⟨by decide +kernel, by decide +kernel⟩, List.mem_of_getElem? (i := 27) (by decide +kernel), List.mem_of_getElem? (i := 530) (by decide +kernel), List.mem_of_getElem? (i := 531) (by decide +kernel)⟩
theorem lw_p23 : lw_okq (⟨"RiverSteamers$River", "setOut", "(LRiverSteamers$Boat;Z)I"⟩, 16) := ⟨⟨by decide +kernel, by decide +kernel⟩, List.mem_of_getElem? (i := 27) (by decide +kernel), List.mem_of_getElem? (i := 534) (by decide +kernel), List.mem_of_getElem? (i := 535) (by decide +kernel)⟩
theorem lw_p24 : lw_okq (⟨"RiverSteamers$River", "waterOn", "(II)I"⟩, 16) := ⟨⟨by decide +kernel, by decide +kernel⟩, List.mem_of_getElem? (i := 27) (by decide +kernel), List.mem_of_getElem? (i := 538) (by decide +kernel), List.mem_of_getElem? (i := 539) (by decide +kernel)⟩
theorem lw_p25 : lw_okq (⟨"RiverSteamers$Stretch", "shiftOn", "(I)I"⟩, 6) := ⟨⟨by decide +kernel, by decide +kernel⟩, List.mem_of_getElem? (i := 47) (by decide +kernel), List.mem_of_getElem? (i := 542) (by decide +kernel), List.mem_of_getElem? (i := 543) (by decide +kernel)⟩
theorem lw_p26 : lw_okq (⟨"RiverSteamers$Words", "learn", "(III)V"⟩, 2) := ⟨⟨by decide +kernel, by decide +kernel⟩, List.mem_of_getElem? (i := 92) (by decide +kernel), List.mem_of_getElem? (i := 546) (by decide +kernel), List.mem_of_getElem? (i := 547) (by decide +kernel)⟩
theorem lw_p27 : lw_okq (⟨"RiverSteamers$River", "comeTo", "(LRiverSteamers$Boat;I)V"⟩, 16) := ⟨⟨by decide +kernel, by decide +kernel⟩, List.mem_of_getElem? (i := 27) (by decide +kernel), List.mem_of_getElem? (i := 556) (by decide +kernel), List.mem_of_getElem? (i := 557) (by decide +kernel)⟩
theorem lw_p28 : lw_okq (⟨"RiverSteamers$Words", "exchange", "(LRiverSteamers$Words;)V"⟩, 2) := ⟨⟨by decide +kernel, by decide +kernel⟩, List.mem_of_getElem? (i := 92) (by decide +kernel), List.mem_of_getElem? (i := 560) (by decide +kernel), List.mem_of_getElem? (i := 561) (by decide +kernel)⟩
theorem lw_p29 : lw_okq (⟨"RiverSteamers$River", "goOneQuarter", "()V"⟩, 16) := ⟨⟨by decide +kernel, by decide +kernel⟩, List.mem_of_getElem? (i := 27) (by decide +kernel), List.mem_of_getElem? (i := 569) (by decide +kernel), List.mem_of_getElem? (i := 570) (by decide +kernel)⟩
theorem lw_p30 : lw_okq (⟨"RiverSteamers$Boat", "isUnderWay", "()Z"⟩, 10) := ⟨⟨by decide +kernel, by decide +kernel⟩, List.mem_of_getElem? (i := 117) (by decide +kernel), List.mem_of_getElem? (i := 573) (by decide +kernel), List.mem_of_getElem? (i := 574) (by decide +kernel)⟩
theorem lw_p31 : lw_okq (⟨"RiverSteamers$Trip", "begin", "(III)V"⟩, 3) := ⟨⟨by decide +kernel, by decide +kernel⟩, List.mem_of_getElem? (i := 198) (by decide +kernel), List.mem_of_getElem? (i := 590) (by decide +kernel), List.mem_of_getElem? (i := 591) (by decide +kernel)⟩
def lw_privs_2 : List (MethodName × Nat) := [(⟨"RiverSteamers$Boat", "stretchToward", "(Z)I"⟩, 10), (⟨"RiverSteamers$Words", "isKnown", "(I)Z"⟩, 2), (⟨"RiverSteamers$River", "longNow", "(I)I"⟩, 16), (⟨"RiverSteamers$River", "isNight", "()Z"⟩, 16), (⟨"RiverSteamers$River", "longByDaylight", "(I)I"⟩, 16), (⟨"RiverSteamers$River", "today", "()I"⟩, 16), (⟨"RiverSteamers$River", "heightOn", "(I)I"⟩, 16), (⟨"RiverSteamers$River", "setOut", "(LRiverSteamers$Boat;Z)I"⟩, 16), (⟨"RiverSteamers$River", "waterOn", "(II)I"⟩, 16), (⟨"RiverSteamers$Stretch", "shiftOn", "(I)I"⟩, 6), (⟨"RiverSteamers$Words", "learn", "(III)V"⟩, 2), (⟨"RiverSteamers$River", "comeTo", "(LRiverSteamers$Boat;I)V"⟩, 16), (⟨"RiverSteamers$Words", "exchange", "(LRiverSteamers$Words;)V"⟩, 2), (⟨"RiverSteamers$River", "goOneQuarter", "()V"⟩, 16), (⟨"RiverSteamers$Boat", "isUnderWay", "()Z"⟩, 10), (⟨"RiverSteamers$Trip", "begin", "(III)V"⟩, 3)]
theorem lw_r2 : ∀ q ∈ lw_privs_2, lw_okq q := List.forall_mem_cons.mpr ⟨lw_p16, List.forall_mem_cons.mpr ⟨lw_p17, List.forall_mem_cons.mpr ⟨lw_p18, List.forall_mem_cons.mpr ⟨lw_p19, List.forall_mem_cons.mpr ⟨lw_p20, List.forall_mem_cons.mpr ⟨lw_p21, List.forall_mem_cons.mpr ⟨lw_p22, List.forall_mem_cons.mpr ⟨lw_p23, List.forall_mem_cons.mpr ⟨lw_p24, List.forall_mem_cons.mpr ⟨lw_p25, List.forall_mem_cons.mpr ⟨lw_p26, List.forall_mem_cons.mpr ⟨lw_p27, List.forall_mem_cons.mpr ⟨lw_p28, List.forall_mem_cons.mpr ⟨lw_p29, List.forall_mem_cons.mpr ⟨lw_p30, List.forall_mem_cons.mpr ⟨lw_p31, fun _ h => absurd h List.not_mem_nil⟩⟩⟩⟩⟩⟩⟩⟩⟩⟩⟩⟩⟩⟩⟩⟩
theorem lw_p32 : lw_okq (⟨"RiverSteamers$Rule", "begin", "(IIII)V"⟩, 4) := ⟨⟨by decide +kernel, by decide +kernel⟩, List.mem_of_getElem? (i := 214) (by decide +kernel), List.mem_of_getElem? (i := 598) (by decide +kernel), List.mem_of_getElem? (i := 599) (by decide +kernel)⟩
theorem lw_p33 : lw_okq (⟨"RiverSteamers$River", "copyFrom", "(LRiverSteamers$River;)V"⟩, 16) := ⟨⟨by decide +kernel, by decide +kernel⟩, List.mem_of_getElem? (i := 27) (by decide +kernel), List.mem_of_getElem? (i := 606) (by decide +kernel), List.mem_of_getElem? (i := 607) (by decide +kernel)⟩
theorem lw_p34 : lw_okq (⟨"RiverSteamers$River", "copyThings", "(LRiverSteamers$River;)V"⟩, 16) := ⟨⟨by decide +kernel, by decide +kernel⟩, List.mem_of_getElem? (i := 27) (by decide +kernel), List.mem_of_getElem? (i := 613) (by decide +kernel), List.mem_of_getElem? (i := 614) (by decide +kernel)⟩
theorem lw_p35 : lw_okq (⟨"RiverSteamers$Stretch", "copyFrom", "(LRiverSteamers$Stretch;)V"⟩, 6) := ⟨⟨by decide +kernel, by decide +kernel⟩, List.mem_of_getElem? (i := 47) (by decide +kernel), List.mem_of_getElem? (i := 617) (by decide +kernel), List.mem_of_getElem? (i := 618) (by decide +kernel)⟩
theorem lw_p36 : lw_okq (⟨"RiverSteamers$Landing", "copyFrom", "(LRiverSteamers$Landing;)V"⟩, 2) := ⟨⟨by decide +kernel, by decide +kernel⟩, List.mem_of_getElem? (i := 86) (by decide +kernel), List.mem_of_getElem? (i := 622) (by decide +kernel), List.mem_of_getElem? (i := 623) (by decide +kernel)⟩
theorem lw_p37 : lw_okq (⟨"RiverSteamers$Words", "copyFrom", "(LRiverSteamers$Words;)V"⟩, 2) := ⟨⟨by decide +kernel, by decide +kernel⟩, List.mem_of_getElem? (i := 92) (by decide +kernel), List.mem_of_getElem? (i := 626) (by decide +kernel), List.mem_of_getElem? (i := 627) (by decide +kernel)⟩
theorem lw_p38 : lw_okq (⟨"RiverSteamers$Boat", "copyFrom", "(LRiverSteamers$Boat;)V"⟩, 10) := ⟨⟨by decide +kernel, by decide +kernel⟩, List.mem_of_getElem? (i := 117) (by decide +kernel), List.mem_of_getElem? (i := 631) (by decide +kernel), List.mem_of_getElem? (i := 632) (by decide +kernel)⟩
theorem lw_p39 : lw_okq (⟨"RiverSteamers$Bale", "copyFrom", "(LRiverSteamers$Bale;)V"⟩, 5) := ⟨⟨by decide +kernel, by decide +kernel⟩, List.mem_of_getElem? (i := 170) (by decide +kernel), List.mem_of_getElem? (i := 636) (by decide +kernel), List.mem_of_getElem? (i := 637) (by decide +kernel)⟩
theorem lw_p40 : lw_okq (⟨"RiverSteamers$Trip", "copyFrom", "(LRiverSteamers$Trip;)V"⟩, 3) := ⟨⟨by decide +kernel, by decide +kernel⟩, List.mem_of_getElem? (i := 198) (by decide +kernel), List.mem_of_getElem? (i := 640) (by decide +kernel), List.mem_of_getElem? (i := 641) (by decide +kernel)⟩
theorem lw_p41 : lw_okq (⟨"RiverSteamers$Rule", "copyFrom", "(LRiverSteamers$Rule;)V"⟩, 4) := ⟨⟨by decide +kernel, by decide +kernel⟩, List.mem_of_getElem? (i := 214) (by decide +kernel), List.mem_of_getElem? (i := 645) (by decide +kernel), List.mem_of_getElem? (i := 646) (by decide +kernel)⟩
theorem lw_p42 : lw_okq (⟨"RiverSteamers$Words", "toldOf", "(II)I"⟩, 2) := ⟨⟨by decide +kernel, by decide +kernel⟩, List.mem_of_getElem? (i := 92) (by decide +kernel), List.mem_of_getElem? (i := 686) (by decide +kernel), List.mem_of_getElem? (i := 687) (by decide +kernel)⟩
theorem lw_p43 : lw_okq (⟨"RiverSteamers", "listBalesAt", "(I)I"⟩, 8) := ⟨⟨by decide +kernel, by decide +kernel⟩, List.mem_of_getElem? (i := 19) (by decide +kernel), List.mem_of_getElem? (i := 700) (by decide +kernel), List.mem_of_getElem? (i := 701) (by decide +kernel)⟩
theorem lw_p44 : lw_okq (⟨"RiverSteamers", "bestSet", "(LRiverSteamers$Boat;II)I"⟩, 8) := ⟨⟨by decide +kernel, by decide +kernel⟩, List.mem_of_getElem? (i := 19) (by decide +kernel), List.mem_of_getElem? (i := 704) (by decide +kernel), List.mem_of_getElem? (i := 705) (by decide +kernel)⟩
theorem lw_p45 : lw_okq (⟨"RiverSteamers$Boat", "canTake", "(II)Z"⟩, 10) := ⟨⟨by decide +kernel, by decide +kernel⟩, List.mem_of_getElem? (i := 117) (by decide +kernel), List.mem_of_getElem? (i := 708) (by decide +kernel), List.mem_of_getElem? (i := 709) (by decide +kernel)⟩
theorem lw_p46 : lw_okq (⟨"RiverSteamers$Wooding", "workOut", "(LRiverSteamers$River;III)V"⟩, 5) := ⟨⟨by decide +kernel, by decide +kernel⟩, List.mem_of_getElem? (i := 317) (by decide +kernel), List.mem_of_getElem? (i := 716) (by decide +kernel), List.mem_of_getElem? (i := 717) (by decide +kernel)⟩
theorem lw_p47 : lw_okq (⟨"RiverSteamers$Wooding", "workOutStep", "(I)V"⟩, 5) := ⟨⟨by decide +kernel, by decide +kernel⟩, List.mem_of_getElem? (i := 317) (by decide +kernel), List.mem_of_getElem? (i := 724) (by decide +kernel), List.mem_of_getElem? (i := 725) (by decide +kernel)⟩
def lw_privs_3 : List (MethodName × Nat) := [(⟨"RiverSteamers$Rule", "begin", "(IIII)V"⟩, 4), (⟨"RiverSteamers$River", "copyFrom", "(LRiverSteamers$River;)V"⟩, 16), (⟨"RiverSteamers$River", "copyThings", "(LRiverSteamers$River;)V"⟩, 16), (⟨"RiverSteamers$Stretch", "copyFrom", "(LRiverSteamers$Stretch;)V"⟩, 6), (⟨"RiverSteamers$Landing", "copyFrom", "(LRiverSteamers$Landing;)V"⟩, 2), (⟨"RiverSteamers$Words", "copyFrom", "(LRiverSteamers$Words;)V"⟩, 2), (⟨"RiverSteamers$Boat", "copyFrom", "(LRiverSteamers$Boat;)V"⟩, 10), (⟨"RiverSteamers$Bale", "copyFrom", "(LRiverSteamers$Bale;)V"⟩, 5), (⟨"RiverSteamers$Trip", "copyFrom", "(LRiverSteamers$Trip;)V"⟩, 3), (⟨"RiverSteamers$Rule", "copyFrom", "(LRiverSteamers$Rule;)V"⟩, 4), (⟨"RiverSteamers$Words", "toldOf", "(II)I"⟩, 2), (⟨"RiverSteamers", "listBalesAt", "(I)I"⟩, 8), (⟨"RiverSteamers", "bestSet", "(LRiverSteamers$Boat;II)I"⟩, 8), (⟨"RiverSteamers$Boat", "canTake", "(II)Z"⟩, 10), (⟨"RiverSteamers$Wooding", "workOut", "(LRiverSteamers$River;III)V"⟩, 5), (⟨"RiverSteamers$Wooding", "workOutStep", "(I)V"⟩, 5)]
theorem lw_r3 : ∀ q ∈ lw_privs_3, lw_okq q := List.forall_mem_cons.mpr ⟨lw_p32, List.forall_mem_cons.mpr ⟨lw_p33, List.forall_mem_cons.mpr ⟨lw_p34, List.forall_mem_cons.mpr ⟨lw_p35, List.forall_mem_cons.mpr ⟨lw_p36, List.forall_mem_cons.mpr ⟨lw_p37, List.forall_mem_cons.mpr ⟨lw_p38, List.forall_mem_cons.mpr ⟨lw_p39, List.forall_mem_cons.mpr ⟨lw_p40, List.forall_mem_cons.mpr ⟨lw_p41, List.forall_mem_cons.mpr ⟨lw_p42, List.forall_mem_cons.mpr ⟨lw_p43, List.forall_mem_cons.mpr ⟨lw_p44, List.forall_mem_cons.mpr ⟨lw_p45, List.forall_mem_cons.mpr ⟨lw_p46, List.forall_mem_cons.mpr ⟨lw_p47, fun _ h => absurd h List.not_mem_nil⟩⟩⟩⟩⟩⟩⟩⟩⟩⟩⟩⟩⟩⟩⟩⟩
theorem lw_p48 : lw_okq (⟨"RiverSteamers$Wooding", "costOnward", "(II)I"⟩, 5) := ⟨⟨by decide +kernel, by decide +kernel⟩, List.mem_of_getElem? (i := 317) (by decide +kernel), List.mem_of_getElem? (i := 729) (by decide +kernel), List.mem_of_getElem? (i := 730) (by decide +kernel)⟩
theorem lw_p49 : lw_okq (⟨"RiverSteamers$Wooding", "leastCost", "()I"⟩, 5) := ⟨⟨by decide +kernel, by decide +kernel⟩, List.mem_of_getElem? (i := 317) (by decide +kernel), List.mem_of_getElem? (i := 736) (by decide +kernel), List.mem_of_getElem? (i := 737) (by decide +kernel)⟩
theorem lw_p50 : lw_okq (⟨"RiverSteamers$Wooding", "cordsAt", "(I)I"⟩, 5) := ⟨⟨by decide +kernel, by decide +kernel⟩, List.mem_of_getElem? (i := 317) (by decide +kernel), List.mem_of_getElem? (i := 744) (by decide +kernel), List.mem_of_getElem? (i := 745) (by decide +kernel)⟩
theorem lw_p51 : lw_okq (⟨"RiverSteamers$Wooding", "cordsFrom", "(II)I"⟩, 5) := ⟨⟨by decide +kernel, by decide +kernel⟩, List.mem_of_getElem? (i := 317) (by decide +kernel), List.mem_of_getElem? (i := 749) (by decide +kernel), List.mem_of_getElem? (i := 750) (by decide +kernel)⟩
theorem lw_p52 : lw_okq (⟨"RiverSteamers$River", "darkCrossings", "()I"⟩, 16) := ⟨⟨by decide +kernel, by decide +kernel⟩, List.mem_of_getElem? (i := 27) (by decide +kernel), List.mem_of_getElem? (i := 757) (by decide +kernel), List.mem_of_getElem? (i := 758) (by decide +kernel)⟩
theorem lw_p53 : lw_okq (⟨"RiverSteamers$River", "tripsBear", "(I)Z"⟩, 16) := ⟨⟨by decide +kernel, by decide +kernel⟩, List.mem_of_getElem? (i := 27) (by decide +kernel), List.mem_of_getElem? (i := 767) (by decide +kernel), List.mem_of_getElem? (i := 768) (by decide +kernel)⟩
theorem lw_p54 : lw_okq (⟨"RiverSteamers$Trip", "wayBits", "()I"⟩, 3) := ⟨⟨by decide +kernel, by decide +kernel⟩, List.mem_of_getElem? (i := 198) (by decide +kernel), List.mem_of_getElem? (i := 771) (by decide +kernel), List.mem_of_getElem? (i := 772) (by decide +kernel)⟩
theorem lw_p55 : lw_okq (⟨"RiverSteamers$Rule", "isInForce", "(I)Z"⟩, 4) := ⟨⟨by decide +kernel, by decide +kernel⟩, List.mem_of_getElem? (i := 214) (by decide +kernel), List.mem_of_getElem? (i := 784) (by decide +kernel), List.mem_of_getElem? (i := 785) (by decide +kernel)⟩
theorem lw_p56 : lw_okq (⟨"RiverSteamers", "yieldingBy", "(IIIZZ)I"⟩, 8) := ⟨⟨by decide +kernel, by decide +kernel⟩, List.mem_of_getElem? (i := 19) (by decide +kernel), List.mem_of_getElem? (i := 789) (by decide +kernel), List.mem_of_getElem? (i := 790) (by decide +kernel)⟩
theorem lw_p57 : lw_okq (⟨"RiverSteamers$River", "boatsAground", "()I"⟩, 16) := ⟨⟨by decide +kernel, by decide +kernel⟩, List.mem_of_getElem? (i := 27) (by decide +kernel), List.mem_of_getElem? (i := 798) (by decide +kernel), List.mem_of_getElem? (i := 799) (by decide +kernel)⟩
theorem lw_p58 : lw_okq (⟨"RiverSteamers$Acts", "begin", "(LRiverSteamers$Stretch;II)I"⟩, 2) := ⟨⟨by decide +kernel, by decide +kernel⟩, List.mem_of_getElem? (i := 302) (by decide +kernel), List.mem_of_getElem? (i := 807) (by decide +kernel), List.mem_of_getElem? (i := 808) (by decide +kernel)⟩
theorem lw_p59 : lw_okq (⟨"RiverSteamers$Acts", "run", "(LRiverSteamers$Stretch;IIII)I"⟩, 2) := ⟨⟨by decide +kernel, by decide +kernel⟩, List.mem_of_getElem? (i := 302) (by decide +kernel), List.mem_of_getElem? (i := 811) (by decide +kernel), List.mem_of_getElem? (i := 812) (by decide +kernel)⟩
theorem lw_p60 : lw_okq (⟨"RiverSteamers$Acts", "note", "(I)V"⟩, 2) := ⟨⟨by decide +kernel, by decide +kernel⟩, List.mem_of_getElem? (i := 302) (by decide +kernel), List.mem_of_getElem? (i := 821) (by decide +kernel), List.mem_of_getElem? (i := 822) (by decide +kernel)⟩
theorem lw_p61 : lw_okq (⟨"RiverSteamers$Sheet", "begin", "(II)V"⟩, 3) := ⟨⟨by decide +kernel, by decide +kernel⟩, List.mem_of_getElem? (i := 338) (by decide +kernel), List.mem_of_getElem? (i := 836) (by decide +kernel), List.mem_of_getElem? (i := 837) (by decide +kernel)⟩
theorem lw_p62 : lw_okq (⟨"RiverSteamers$Sheet", "isMissing", "()Z"⟩, 3) := ⟨⟨by decide +kernel, by decide +kernel⟩, List.mem_of_getElem? (i := 338) (by decide +kernel), List.mem_of_getElem? (i := 845) (by decide +kernel), List.mem_of_getElem? (i := 846) (by decide +kernel)⟩
theorem lw_p63 : lw_okq (⟨"RiverSteamers$Sheet", "hasPlace", "(I)Z"⟩, 3) := ⟨⟨by decide +kernel, by decide +kernel⟩, List.mem_of_getElem? (i := 338) (by decide +kernel), List.mem_of_getElem? (i := 849) (by decide +kernel), List.mem_of_getElem? (i := 850) (by decide +kernel)⟩
def lw_privs_4 : List (MethodName × Nat) := [(⟨"RiverSteamers$Wooding", "costOnward", "(II)I"⟩, 5), (⟨"RiverSteamers$Wooding", "leastCost", "()I"⟩, 5), (⟨"RiverSteamers$Wooding", "cordsAt", "(I)I"⟩, 5), (⟨"RiverSteamers$Wooding", "cordsFrom", "(II)I"⟩, 5), (⟨"RiverSteamers$River", "darkCrossings", "()I"⟩, 16), (⟨"RiverSteamers$River", "tripsBear", "(I)Z"⟩, 16), (⟨"RiverSteamers$Trip", "wayBits", "()I"⟩, 3), (⟨"RiverSteamers$Rule", "isInForce", "(I)Z"⟩, 4), (⟨"RiverSteamers", "yieldingBy", "(IIIZZ)I"⟩, 8), (⟨"RiverSteamers$River", "boatsAground", "()I"⟩, 16), (⟨"RiverSteamers$Acts", "begin", "(LRiverSteamers$Stretch;II)I"⟩, 2), (⟨"RiverSteamers$Acts", "run", "(LRiverSteamers$Stretch;IIII)I"⟩, 2), (⟨"RiverSteamers$Acts", "note", "(I)V"⟩, 2), (⟨"RiverSteamers$Sheet", "begin", "(II)V"⟩, 3), (⟨"RiverSteamers$Sheet", "isMissing", "()Z"⟩, 3), (⟨"RiverSteamers$Sheet", "hasPlace", "(I)Z"⟩, 3)]
theorem lw_r4 : ∀ q ∈ lw_privs_4, lw_okq q := List.forall_mem_cons.mpr ⟨lw_p48, List.forall_mem_cons.mpr ⟨lw_p49, List.forall_mem_cons.mpr ⟨lw_p50, List.forall_mem_cons.mpr ⟨lw_p51, List.forall_mem_cons.mpr ⟨lw_p52, List.forall_mem_cons.mpr ⟨lw_p53, List.forall_mem_cons.mpr ⟨lw_p54, List.forall_mem_cons.mpr ⟨lw_p55, List.forall_mem_cons.mpr ⟨lw_p56, List.forall_mem_cons.mpr ⟨lw_p57, List.forall_mem_cons.mpr ⟨lw_p58, List.forall_mem_cons.mpr ⟨lw_p59, List.forall_mem_cons.mpr ⟨lw_p60, List.forall_mem_cons.mpr ⟨lw_p61, List.forall_mem_cons.mpr ⟨lw_p62, List.forall_mem_cons.mpr ⟨lw_p63, fun _ h => absurd h List.not_mem_nil⟩⟩⟩⟩⟩⟩⟩⟩⟩⟩⟩⟩⟩⟩⟩⟩
theorem lw_p64 : lw_okq (⟨"RiverSteamers$Sheet", "put", "(II)V"⟩, 3) := ⟨⟨by decide +kernel, by decide +kernel⟩, List.mem_of_getElem? (i := 338) (by decide +kernel), List.mem_of_getElem? (i := 854) (by decide +kernel), List.mem_of_getElem? (i := 855) (by decide +kernel)⟩
theorem lw_p65 : lw_okq (⟨"RiverSteamers$Sheet", "faultAs", "(I)I"⟩, 3) := ⟨⟨by decide +kernel, by decide +kernel⟩, List.mem_of_getElem? (i := 338) (by decide +kernel), List.mem_of_getElem? (i := 862) (by decide +kernel), List.mem_of_getElem? (i := 863) (by decide +kernel)⟩
theorem lw_p66 : lw_okq (⟨"RiverSteamers", "tellFromFloat", "(II)V"⟩, 8) := ⟨⟨by decide +kernel, by decide +kernel⟩, List.mem_of_getElem? (i := 19) (by decide +kernel), List.mem_of_getElem? (i := 871) (by decide +kernel), List.mem_of_getElem? (i := 872) (by decide +kernel)⟩
theorem lw_p67 : lw_okq (⟨"RiverSteamers", "forgeKind", "(II)I"⟩, 8) := ⟨⟨by decide +kernel, by decide +kernel⟩, List.mem_of_getElem? (i := 19) (by decide +kernel), List.mem_of_getElem? (i := 882) (by decide +kernel), List.mem_of_getElem? (i := 883) (by decide +kernel)⟩
theorem lw_p68 : lw_okq (⟨"RiverSteamers", "forgeShort", "(LRiverSteamers$Sheet;I)I"⟩, 8) := ⟨⟨by decide +kernel, by decide +kernel⟩, List.mem_of_getElem? (i := 19) (by decide +kernel), List.mem_of_getElem? (i := 886) (by decide +kernel), List.mem_of_getElem? (i := 887) (by decide +kernel)⟩
theorem lw_p69 : lw_okq (⟨"RiverSteamers", "forgeCopy", "(LRiverSteamers$Sheet;I)I"⟩, 8) := ⟨⟨by decide +kernel, by decide +kernel⟩, List.mem_of_getElem? (i := 19) (by decide +kernel), List.mem_of_getElem? (i := 890) (by decide +kernel), List.mem_of_getElem? (i := 891) (by decide +kernel)⟩
theorem lw_p70 : lw_okq (⟨"RiverSteamers", "forgeRow", "(I)I"⟩, 8) := ⟨⟨by decide +kernel, by decide +kernel⟩, List.mem_of_getElem? (i := 19) (by decide +kernel), List.mem_of_getElem? (i := 894) (by decide +kernel), List.mem_of_getElem? (i := 895) (by decide +kernel)⟩
theorem lw_p71 : lw_okq (⟨"RiverSteamersModel", "refused", "(I)I"⟩, 64) := ⟨⟨by decide +kernel, by decide +kernel⟩, List.mem_of_getElem? (i := 902) (by decide +kernel), List.mem_of_getElem? (i := 1108) (by decide +kernel), List.mem_of_getElem? (i := 1109) (by decide +kernel)⟩
theorem lw_p72 : lw_okq (⟨"RiverSteamersModel", "done", "(I)I"⟩, 64) := ⟨⟨by decide +kernel, by decide +kernel⟩, List.mem_of_getElem? (i := 902) (by decide +kernel), List.mem_of_getElem? (i := 1112) (by decide +kernel), List.mem_of_getElem? (i := 1113) (by decide +kernel)⟩
theorem lw_p73 : lw_okq (⟨"RiverSteamersModel", "told", "()I"⟩, 64) := ⟨⟨by decide +kernel, by decide +kernel⟩, List.mem_of_getElem? (i := 902) (by decide +kernel), List.mem_of_getElem? (i := 1123) (by decide +kernel), List.mem_of_getElem? (i := 1124) (by decide +kernel)⟩
theorem lw_p74 : lw_okq (⟨"RiverSteamersModel", "isStretch", "(I)Z"⟩, 64) := ⟨⟨by decide +kernel, by decide +kernel⟩, List.mem_of_getElem? (i := 902) (by decide +kernel), List.mem_of_getElem? (i := 1131) (by decide +kernel), List.mem_of_getElem? (i := 1132) (by decide +kernel)⟩
theorem lw_p75 : lw_okq (⟨"RiverSteamersModel", "isBar", "(I)Z"⟩, 64) := ⟨⟨by decide +kernel, by decide +kernel⟩, List.mem_of_getElem? (i := 902) (by decide +kernel), List.mem_of_getElem? (i := 1135) (by decide +kernel), List.mem_of_getElem? (i := 1136) (by decide +kernel)⟩
theorem lw_p76 : lw_okq (⟨"RiverSteamersModel", "heightOf", "(I)I"⟩, 64) := ⟨⟨by decide +kernel, by decide +kernel⟩, List.mem_of_getElem? (i := 902) (by decide +kernel), List.mem_of_getElem? (i := 1151) (by decide +kernel), List.mem_of_getElem? (i := 1152) (by decide +kernel)⟩
theorem lw_p77 : lw_okq (⟨"RiverSteamersModel", "waterOf", "(II)I"⟩, 64) := ⟨⟨by decide +kernel, by decide +kernel⟩, List.mem_of_getElem? (i := 902) (by decide +kernel), List.mem_of_getElem? (i := 1159) (by decide +kernel), List.mem_of_getElem? (i := 1160) (by decide +kernel)⟩
theorem lw_p78 : lw_okq (⟨"RiverSteamersModel", "shiftOf", "(II)I"⟩, 64) := ⟨⟨by decide +kernel, by decide +kernel⟩, List.mem_of_getElem? (i := 902) (by decide +kernel), List.mem_of_getElem? (i := 1163) (by decide +kernel), List.mem_of_getElem? (i := 1164) (by decide +kernel)⟩
theorem lw_p79 : lw_okq (⟨"RiverSteamersModel", "today", "()I"⟩, 64) := ⟨⟨by decide +kernel, by decide +kernel⟩, List.mem_of_getElem? (i := 902) (by decide +kernel), List.mem_of_getElem? (i := 1171) (by decide +kernel), List.mem_of_getElem? (i := 1172) (by decide +kernel)⟩
def lw_privs_5 : List (MethodName × Nat) := [(⟨"RiverSteamers$Sheet", "put", "(II)V"⟩, 3), (⟨"RiverSteamers$Sheet", "faultAs", "(I)I"⟩, 3), (⟨"RiverSteamers", "tellFromFloat", "(II)V"⟩, 8), (⟨"RiverSteamers", "forgeKind", "(II)I"⟩, 8), (⟨"RiverSteamers", "forgeShort", "(LRiverSteamers$Sheet;I)I"⟩, 8), (⟨"RiverSteamers", "forgeCopy", "(LRiverSteamers$Sheet;I)I"⟩, 8), (⟨"RiverSteamers", "forgeRow", "(I)I"⟩, 8), (⟨"RiverSteamersModel", "refused", "(I)I"⟩, 64), (⟨"RiverSteamersModel", "done", "(I)I"⟩, 64), (⟨"RiverSteamersModel", "told", "()I"⟩, 64), (⟨"RiverSteamersModel", "isStretch", "(I)Z"⟩, 64), (⟨"RiverSteamersModel", "isBar", "(I)Z"⟩, 64), (⟨"RiverSteamersModel", "heightOf", "(I)I"⟩, 64), (⟨"RiverSteamersModel", "waterOf", "(II)I"⟩, 64), (⟨"RiverSteamersModel", "shiftOf", "(II)I"⟩, 64), (⟨"RiverSteamersModel", "today", "()I"⟩, 64)]
theorem lw_r5 : ∀ q ∈ lw_privs_5, lw_okq q := List.forall_mem_cons.mpr ⟨lw_p64, List.forall_mem_cons.mpr ⟨lw_p65, List.forall_mem_cons.mpr ⟨lw_p66, List.forall_mem_cons.mpr ⟨lw_p67, List.forall_mem_cons.mpr ⟨lw_p68, List.forall_mem_cons.mpr ⟨lw_p69, List.forall_mem_cons.mpr ⟨lw_p70, List.forall_mem_cons.mpr ⟨lw_p71, List.forall_mem_cons.mpr ⟨lw_p72, List.forall_mem_cons.mpr ⟨lw_p73, List.forall_mem_cons.mpr ⟨lw_p74, List.forall_mem_cons.mpr ⟨lw_p75, List.forall_mem_cons.mpr ⟨lw_p76, List.forall_mem_cons.mpr ⟨lw_p77, List.forall_mem_cons.mpr ⟨lw_p78, List.forall_mem_cons.mpr ⟨lw_p79, fun _ h => absurd h List.not_mem_nil⟩⟩⟩⟩⟩⟩⟩⟩⟩⟩⟩⟩⟩⟩⟩⟩
theorem lw_p80 : lw_okq (⟨"RiverSteamersModel", "isNight", "()Z"⟩, 64) := ⟨⟨by decide +kernel, by decide +kernel⟩, List.mem_of_getElem? (i := 902) (by decide +kernel), List.mem_of_getElem? (i := 1175) (by decide +kernel), List.mem_of_getElem? (i := 1176) (by decide +kernel)⟩
theorem lw_p81 : lw_okq (⟨"RiverSteamersModel", "longOf", "(IZ)I"⟩, 64) := ⟨⟨by decide +kernel, by decide +kernel⟩, List.mem_of_getElem? (i := 902) (by decide +kernel), List.mem_of_getElem? (i := 1179) (by decide +kernel), List.mem_of_getElem? (i := 1180) (by decide +kernel)⟩
theorem lw_p82 : lw_okq (⟨"RiverSteamersModel", "isLanding", "(I)Z"⟩, 64) := ⟨⟨by decide +kernel, by decide +kernel⟩, List.mem_of_getElem? (i := 902) (by decide +kernel), List.mem_of_getElem? (i := 1187) (by decide +kernel), List.mem_of_getElem? (i := 1188) (by decide +kernel)⟩
theorem lw_p83 : lw_okq (⟨"RiverSteamersModel", "isBale", "(I)Z"⟩, 64) := ⟨⟨by decide +kernel, by decide +kernel⟩, List.mem_of_getElem? (i := 902) (by decide +kernel), List.mem_of_getElem? (i := 1199) (by decide +kernel), List.mem_of_getElem? (i := 1200) (by decide +kernel)⟩
theorem lw_p84 : lw_okq (⟨"RiverSteamersModel", "isBoat", "(I)Z"⟩, 64) := ⟨⟨by decide +kernel, by decide +kernel⟩, List.mem_of_getElem? (i := 902) (by decide +kernel), List.mem_of_getElem? (i := 1203) (by decide +kernel), List.mem_of_getElem? (i := 1204) (by decide +kernel)⟩
theorem lw_p85 : lw_okq (⟨"RiverSteamersModel", "aboard", "(I)I"⟩, 64) := ⟨⟨by decide +kernel, by decide +kernel⟩, List.mem_of_getElem? (i := 902) (by decide +kernel), List.mem_of_getElem? (i := 1207) (by decide +kernel), List.mem_of_getElem? (i := 1208) (by decide +kernel)⟩
theorem lw_p86 : lw_okq (⟨"RiverSteamersModel", "draught", "(I)I"⟩, 64) := ⟨⟨by decide +kernel, by decide +kernel⟩, List.mem_of_getElem? (i := 902) (by decide +kernel), List.mem_of_getElem? (i := 1211) (by decide +kernel), List.mem_of_getElem? (i := 1212) (by decide +kernel)⟩
theorem lw_p87 : lw_okq (⟨"RiverSteamersModel", "whyNot", "(IZ)I"⟩, 64) := ⟨⟨by decide +kernel, by decide +kernel⟩, List.mem_of_getElem? (i := 902) (by decide +kernel), List.mem_of_getElem? (i := 1227) (by decide +kernel), List.mem_of_getElem? (i := 1228) (by decide +kernel)⟩
theorem lw_p88 : lw_okq (⟨"RiverSteamersModel", "ahead", "(IZ)I"⟩, 64) := ⟨⟨by decide +kernel, by decide +kernel⟩, List.mem_of_getElem? (i := 902) (by decide +kernel), List.mem_of_getElem? (i := 1231) (by decide +kernel), List.mem_of_getElem? (i := 1232) (by decide +kernel)⟩
theorem lw_p89 : lw_okq (⟨"RiverSteamersModel", "comes", "(II)V"⟩, 64) := ⟨⟨by decide +kernel, by decide +kernel⟩, List.mem_of_getElem? (i := 902) (by decide +kernel), List.mem_of_getElem? (i := 1243) (by decide +kernel), List.mem_of_getElem? (i := 1244) (by decide +kernel)⟩
theorem lw_p90 : lw_okq (⟨"RiverSteamersModel", "hears", "(II)V"⟩, 64) := ⟨⟨by decide +kernel, by decide +kernel⟩, List.mem_of_getElem? (i := 902) (by decide +kernel), List.mem_of_getElem? (i := 1247) (by decide +kernel), List.mem_of_getElem? (i := 1248) (by decide +kernel)⟩
theorem lw_p91 : lw_okq (⟨"RiverSteamersModel", "word", "(II)I"⟩, 64) := ⟨⟨by decide +kernel, by decide +kernel⟩, List.mem_of_getElem? (i := 902) (by decide +kernel), List.mem_of_getElem? (i := 1259) (by decide +kernel), List.mem_of_getElem? (i := 1260) (by decide +kernel)⟩
theorem lw_p92 : lw_okq (⟨"RiverSteamersModel", "sumOf", "(IZ)I"⟩, 64) := ⟨⟨by decide +kernel, by decide +kernel⟩, List.mem_of_getElem? (i := 902) (by decide +kernel), List.mem_of_getElem? (i := 1279) (by decide +kernel), List.mem_of_getElem? (i := 1280) (by decide +kernel)⟩
theorem lw_p93 : lw_okq (⟨"RiverSteamersModel", "findWood", "(III)I"⟩, 64) := ⟨⟨by decide +kernel, by decide +kernel⟩, List.mem_of_getElem? (i := 902) (by decide +kernel), List.mem_of_getElem? (i := 1295) (by decide +kernel), List.mem_of_getElem? (i := 1296) (by decide +kernel)⟩
theorem lw_p94 : lw_okq (⟨"RiverSteamersModel", "buysAt", "(IIIII)V"⟩, 64) := ⟨⟨by decide +kernel, by decide +kernel⟩, List.mem_of_getElem? (i := 902) (by decide +kernel), List.mem_of_getElem? (i := 1299) (by decide +kernel), List.mem_of_getElem? (i := 1300) (by decide +kernel)⟩
theorem lw_p95 : lw_okq (⟨"RiverSteamersModel", "helps", "(I)Z"⟩, 64) := ⟨⟨by decide +kernel, by decide +kernel⟩, List.mem_of_getElem? (i := 902) (by decide +kernel), List.mem_of_getElem? (i := 1326) (by decide +kernel), List.mem_of_getElem? (i := 1327) (by decide +kernel)⟩
def lw_privs_6 : List (MethodName × Nat) := [(⟨"RiverSteamersModel", "isNight", "()Z"⟩, 64), (⟨"RiverSteamersModel", "longOf", "(IZ)I"⟩, 64), (⟨"RiverSteamersModel", "isLanding", "(I)Z"⟩, 64), (⟨"RiverSteamersModel", "isBale", "(I)Z"⟩, 64), (⟨"RiverSteamersModel", "isBoat", "(I)Z"⟩, 64), (⟨"RiverSteamersModel", "aboard", "(I)I"⟩, 64), (⟨"RiverSteamersModel", "draught", "(I)I"⟩, 64), (⟨"RiverSteamersModel", "whyNot", "(IZ)I"⟩, 64), (⟨"RiverSteamersModel", "ahead", "(IZ)I"⟩, 64), (⟨"RiverSteamersModel", "comes", "(II)V"⟩, 64), (⟨"RiverSteamersModel", "hears", "(II)V"⟩, 64), (⟨"RiverSteamersModel", "word", "(II)I"⟩, 64), (⟨"RiverSteamersModel", "sumOf", "(IZ)I"⟩, 64), (⟨"RiverSteamersModel", "findWood", "(III)I"⟩, 64), (⟨"RiverSteamersModel", "buysAt", "(IIIII)V"⟩, 64), (⟨"RiverSteamersModel", "helps", "(I)Z"⟩, 64)]
theorem lw_r6 : ∀ q ∈ lw_privs_6, lw_okq q := List.forall_mem_cons.mpr ⟨lw_p80, List.forall_mem_cons.mpr ⟨lw_p81, List.forall_mem_cons.mpr ⟨lw_p82, List.forall_mem_cons.mpr ⟨lw_p83, List.forall_mem_cons.mpr ⟨lw_p84, List.forall_mem_cons.mpr ⟨lw_p85, List.forall_mem_cons.mpr ⟨lw_p86, List.forall_mem_cons.mpr ⟨lw_p87, List.forall_mem_cons.mpr ⟨lw_p88, List.forall_mem_cons.mpr ⟨lw_p89, List.forall_mem_cons.mpr ⟨lw_p90, List.forall_mem_cons.mpr ⟨lw_p91, List.forall_mem_cons.mpr ⟨lw_p92, List.forall_mem_cons.mpr ⟨lw_p93, List.forall_mem_cons.mpr ⟨lw_p94, List.forall_mem_cons.mpr ⟨lw_p95, fun _ h => absurd h List.not_mem_nil⟩⟩⟩⟩⟩⟩⟩⟩⟩⟩⟩⟩⟩⟩⟩⟩
theorem lw_p96 : lw_okq (⟨"RiverSteamersModel", "tells", "(IIIZZ)I"⟩, 64) := ⟨⟨by decide +kernel, by decide +kernel⟩, List.mem_of_getElem? (i := 902) (by decide +kernel), List.mem_of_getElem? (i := 1341) (by decide +kernel), List.mem_of_getElem? (i := 1342) (by decide +kernel)⟩
theorem lw_p97 : lw_okq (⟨"RiverSteamersModel", "lay", "()V"⟩, 64) := ⟨⟨by decide +kernel, by decide +kernel⟩, List.mem_of_getElem? (i := 902) (by decide +kernel), List.mem_of_getElem? (i := 1353) (by decide +kernel), List.mem_of_getElem? (i := 1354) (by decide +kernel)⟩
theorem lw_p98 : lw_okq (⟨"RiverSteamersModel", "bearOf", "(II)I"⟩, 64) := ⟨⟨by decide +kernel, by decide +kernel⟩, List.mem_of_getElem? (i := 902) (by decide +kernel), List.mem_of_getElem? (i := 1365) (by decide +kernel), List.mem_of_getElem? (i := 1366) (by decide +kernel)⟩
theorem lw_p99 : lw_okq (⟨"RiverSteamersModel", "ran", "(I)V"⟩, 64) := ⟨⟨by decide +kernel, by decide +kernel⟩, List.mem_of_getElem? (i := 902) (by decide +kernel), List.mem_of_getElem? (i := 1369) (by decide +kernel), List.mem_of_getElem? (i := 1370) (by decide +kernel)⟩
theorem lw_p100 : lw_okq (⟨"RiverSteamersModel", "bear20", "(II)I"⟩, 64) := ⟨⟨by decide +kernel, by decide +kernel⟩, List.mem_of_getElem? (i := 902) (by decide +kernel), List.mem_of_getElem? (i := 1373) (by decide +kernel), List.mem_of_getElem? (i := 1374) (by decide +kernel)⟩
theorem lw_p101 : lw_okq (⟨"RiverSteamersModel", "bear10", "(II)I"⟩, 64) := ⟨⟨by decide +kernel, by decide +kernel⟩, List.mem_of_getElem? (i := 902) (by decide +kernel), List.mem_of_getElem? (i := 1377) (by decide +kernel), List.mem_of_getElem? (i := 1378) (by decide +kernel)⟩
theorem lw_p102 : lw_okq (⟨"RiverSteamersModel", "moveOf", "(II)I"⟩, 64) := ⟨⟨by decide +kernel, by decide +kernel⟩, List.mem_of_getElem? (i := 902) (by decide +kernel), List.mem_of_getElem? (i := 1381) (by decide +kernel), List.mem_of_getElem? (i := 1382) (by decide +kernel)⟩
theorem lw_p103 : lw_okq (⟨"RiverSteamersModel", "move11", "(II)I"⟩, 64) := ⟨⟨by decide +kernel, by decide +kernel⟩, List.mem_of_getElem? (i := 902) (by decide +kernel), List.mem_of_getElem? (i := 1385) (by decide +kernel), List.mem_of_getElem? (i := 1386) (by decide +kernel)⟩
theorem lw_p104 : lw_okq (⟨"RiverSteamersModel", "barOf", "(II)I"⟩, 64) := ⟨⟨by decide +kernel, by decide +kernel⟩, List.mem_of_getElem? (i := 902) (by decide +kernel), List.mem_of_getElem? (i := 1389) (by decide +kernel), List.mem_of_getElem? (i := 1390) (by decide +kernel)⟩
theorem lw_p105 : lw_okq (⟨"RiverSteamersModel", "bar12", "(II)I"⟩, 64) := ⟨⟨by decide +kernel, by decide +kernel⟩, List.mem_of_getElem? (i := 902) (by decide +kernel), List.mem_of_getElem? (i := 1393) (by decide +kernel), List.mem_of_getElem? (i := 1394) (by decide +kernel)⟩
theorem lw_p106 : lw_okq (⟨"RiverSteamersModel", "tellOf", "(II)I"⟩, 64) := ⟨⟨by decide +kernel, by decide +kernel⟩, List.mem_of_getElem? (i := 902) (by decide +kernel), List.mem_of_getElem? (i := 1397) (by decide +kernel), List.mem_of_getElem? (i := 1398) (by decide +kernel)⟩
theorem lw_p107 : lw_okq (⟨"RiverSteamersModel", "tell13", "(II)I"⟩, 64) := ⟨⟨by decide +kernel, by decide +kernel⟩, List.mem_of_getElem? (i := 902) (by decide +kernel), List.mem_of_getElem? (i := 1401) (by decide +kernel), List.mem_of_getElem? (i := 1402) (by decide +kernel)⟩
theorem lw_p108 : lw_okq (⟨"RiverSteamersModel", "shorts", "(II)I"⟩, 64) := ⟨⟨by decide +kernel, by decide +kernel⟩, List.mem_of_getElem? (i := 902) (by decide +kernel), List.mem_of_getElem? (i := 1432) (by decide +kernel), List.mem_of_getElem? (i := 1433) (by decide +kernel)⟩
theorem lw_p109 : lw_okq (⟨"RiverSteamersModel", "copied", "(II)I"⟩, 64) := ⟨⟨by decide +kernel, by decide +kernel⟩, List.mem_of_getElem? (i := 902) (by decide +kernel), List.mem_of_getElem? (i := 1436) (by decide +kernel), List.mem_of_getElem? (i := 1437) (by decide +kernel)⟩
def lw_privs_7 : List (MethodName × Nat) := [(⟨"RiverSteamersModel", "tells", "(IIIZZ)I"⟩, 64), (⟨"RiverSteamersModel", "lay", "()V"⟩, 64), (⟨"RiverSteamersModel", "bearOf", "(II)I"⟩, 64), (⟨"RiverSteamersModel", "ran", "(I)V"⟩, 64), (⟨"RiverSteamersModel", "bear20", "(II)I"⟩, 64), (⟨"RiverSteamersModel", "bear10", "(II)I"⟩, 64), (⟨"RiverSteamersModel", "moveOf", "(II)I"⟩, 64), (⟨"RiverSteamersModel", "move11", "(II)I"⟩, 64), (⟨"RiverSteamersModel", "barOf", "(II)I"⟩, 64), (⟨"RiverSteamersModel", "bar12", "(II)I"⟩, 64), (⟨"RiverSteamersModel", "tellOf", "(II)I"⟩, 64), (⟨"RiverSteamersModel", "tell13", "(II)I"⟩, 64), (⟨"RiverSteamersModel", "shorts", "(II)I"⟩, 64), (⟨"RiverSteamersModel", "copied", "(II)I"⟩, 64)]
theorem lw_r7 : ∀ q ∈ lw_privs_7, lw_okq q := List.forall_mem_cons.mpr ⟨lw_p96, List.forall_mem_cons.mpr ⟨lw_p97, List.forall_mem_cons.mpr ⟨lw_p98, List.forall_mem_cons.mpr ⟨lw_p99, List.forall_mem_cons.mpr ⟨lw_p100, List.forall_mem_cons.mpr ⟨lw_p101, List.forall_mem_cons.mpr ⟨lw_p102, List.forall_mem_cons.mpr ⟨lw_p103, List.forall_mem_cons.mpr ⟨lw_p104, List.forall_mem_cons.mpr ⟨lw_p105, List.forall_mem_cons.mpr ⟨lw_p106, List.forall_mem_cons.mpr ⟨lw_p107, List.forall_mem_cons.mpr ⟨lw_p108, List.forall_mem_cons.mpr ⟨lw_p109, fun _ h => absurd h List.not_mem_nil⟩⟩⟩⟩⟩⟩⟩⟩⟩⟩⟩⟩⟩⟩
def lw_privs : List (MethodName × Nat) := lw_privs_1 ++ (lw_privs_2 ++ (lw_privs_3 ++ (lw_privs_4 ++ (lw_privs_5 ++ (lw_privs_6 ++ (lw_privs_7))))))
def lw_tbl : List Cond := k2_sels lw_privs ++ tables_1
theorem lw_privs_ok : ∀ q ∈ lw_privs, lw_okq q := by
  show ∀ q ∈ lw_privs_1 ++ (lw_privs_2 ++ (lw_privs_3 ++ (lw_privs_4 ++ (lw_privs_5 ++ (lw_privs_6 ++ (lw_privs_7)))))), lw_okq q
  exact List.forall_mem_append.mpr ⟨lw_r1, List.forall_mem_append.mpr ⟨lw_r2, List.forall_mem_append.mpr ⟨lw_r3, List.forall_mem_append.mpr ⟨lw_r4, List.forall_mem_append.mpr ⟨lw_r5, List.forall_mem_append.mpr ⟨lw_r6, lw_r7⟩⟩⟩⟩⟩⟩
end
section
theorem sub_p {big ws : List Cond} (ps : List Nat) (h : ps.filterMap (fun i => big[i]?) = ws) : ∀ w ∈ ws, w ∈ big := by
  intro w hw
  rw [← h] at hw
  obtain ⟨i, -, hi⟩ := List.mem_filterMap.mp hw
  exact List.mem_of_getElem? hi
def RX0 : String := "RiverSteamers$Acts"
def TX0 : u_T := fun k => match k with
  | 0 => ("RiverSteamers$Acts", "bodyCount", "I", false)
  | _ => ("RiverSteamers$Acts", "bodies", "[I", true)
def tyX0 : Nat → FieldType := fun k => match k with
  | 0 => .int
  | _ => .array .int
abbrev wsX00 : List Cond := u_ws RX0 TX0 2
theorem nmX0 : ∀ a, a < 2 → ∀ b, b < 2 → a ≠ b → (TX0 a).2.1 ≠ (TX0 b).2.1 := by decide +kernel
theorem tyX0_ok : ∀ k, k < 2 → parseFieldDescriptor (TX0 k).2.2.1 = some (tyX0 k) := by decide +kernel
abbrev cX0_init : ByteArray := prog_2_method_1_code
def yX0_init : MethodName := ⟨RX0, "<init>", "()V"⟩
abbrev cX0_begin : ByteArray := prog_2_method_2_code
def yX0_begin : MethodName := ⟨RX0, "begin", "(LRiverSteamers$Stretch;II)I"⟩
abbrev cX0_kindWithBody : ByteArray := prog_2_method_3_code
def yX0_kindWithBody : MethodName := ⟨RX0, "kindWithBody", "(II)I"⟩
abbrev cX0_note : ByteArray := prog_2_method_4_code
def yX0_note : MethodName := ⟨RX0, "note", "(I)V"⟩
abbrev cX0_run : ByteArray := prog_2_method_5_code
def yX0_run : MethodName := ⟨RX0, "run", "(LRiverSteamers$Stretch;IIII)I"⟩
def RX1 : String := "RiverSteamers$Bale"
def TX1 : u_T := fun k => match k with
  | 0 => ("RiverSteamers$Bale", "to", "I", false)
  | 1 => ("RiverSteamers$Bale", "weight", "I", false)
  | 2 => ("RiverSteamers$Bale", "rate", "I", false)
  | 3 => ("RiverSteamers$Bale", "how", "I", false)
  | _ => ("RiverSteamers$Bale", "place", "I", false)
def tyX1 : Nat → FieldType := fun k => match k with
  | 0 => .int
  | 1 => .int
  | 2 => .int
  | 3 => .int
  | _ => .int
abbrev wsX10 : List Cond := u_ws RX1 TX1 5
theorem nmX1 : ∀ a, a < 5 → ∀ b, b < 5 → a ≠ b → (TX1 a).2.1 ≠ (TX1 b).2.1 := by decide +kernel
theorem tyX1_ok : ∀ k, k < 5 → parseFieldDescriptor (TX1 k).2.2.1 = some (tyX1 k) := by decide +kernel
abbrev cX1_init : ByteArray := prog_3_method_1_code
def yX1_init : MethodName := ⟨RX1, "<init>", "()V"⟩
abbrev cX1_begin : ByteArray := prog_3_method_2_code
def yX1_begin : MethodName := ⟨RX1, "begin", "(IIII)V"⟩
abbrev cX1_copyFrom : ByteArray := prog_3_method_3_code
def yX1_copyFrom : MethodName := ⟨RX1, "copyFrom", "(LRiverSteamers$Bale;)V"⟩
def RX2 : String := "RiverSteamers$Boat"
def TX2 : u_T := fun k => match k with
  | 0 => ("RiverSteamers$Boat", "hull", "I", false)
  | 1 => ("RiverSteamers$Boat", "room", "I", false)
  | 2 => ("RiverSteamers$Boat", "tank", "I", false)
  | 3 => ("RiverSteamers$Boat", "cords", "I", false)
  | 4 => ("RiverSteamers$Boat", "load", "I", false)
  | 5 => ("RiverSteamers$Boat", "how", "I", false)
  | 6 => ("RiverSteamers$Boat", "place", "I", false)
  | 7 => ("RiverSteamers$Boat", "leftFrom", "I", false)
  | 8 => ("RiverSteamers$Boat", "until", "I", false)
  | _ => ("RiverSteamers$Boat", "words", "LRiverSteamers$Words;", true)
def tyX2 : Nat → FieldType := fun k => match k with
  | 0 => .int
  | 1 => .int
  | 2 => .int
  | 3 => .int
  | 4 => .int
  | 5 => .int
  | 6 => .int
  | 7 => .int
  | 8 => .int
  | _ => .object "RiverSteamers$Words"
abbrev wsX20 : List Cond := u_ws RX2 TX2 10
theorem nmX2 : ∀ a, a < 10 → ∀ b, b < 10 → a ≠ b → (TX2 a).2.1 ≠ (TX2 b).2.1 := by decide +kernel
theorem tyX2_ok : ∀ k, k < 10 → parseFieldDescriptor (TX2 k).2.2.1 = some (tyX2 k) := by decide +kernel
abbrev cX2_init : ByteArray := prog_4_method_1_code
def yX2_init : MethodName := ⟨RX2, "<init>", "()V"⟩
abbrev cX2_begin : ByteArray := prog_4_method_2_code
def yX2_begin : MethodName := ⟨RX2, "begin", "(IIII)V"⟩
abbrev cX2_copyFrom : ByteArray := prog_4_method_3_code
def yX2_copyFrom : MethodName := ⟨RX2, "copyFrom", "(LRiverSteamers$Boat;)V"⟩
abbrev cX2_isUnderWay : ByteArray := prog_4_method_4_code
def yX2_isUnderWay : MethodName := ⟨RX2, "isUnderWay", "()Z"⟩
abbrev cX2_stretchToward : ByteArray := prog_4_method_5_code
def yX2_stretchToward : MethodName := ⟨RX2, "stretchToward", "(Z)I"⟩
abbrev cX2_draught : ByteArray := prog_4_method_6_code
def yX2_draught : MethodName := ⟨RX2, "draught", "()I"⟩
abbrev cX2_draughtWith : ByteArray := prog_4_method_7_code
def yX2_draughtWith : MethodName := ⟨RX2, "draughtWith", "(I)I"⟩
abbrev cX2_canTake : ByteArray := prog_4_method_8_code
def yX2_canTake : MethodName := ⟨RX2, "canTake", "(II)Z"⟩
def RX3 : String := "RiverSteamers$Landing"
def TX3 : u_T := fun k => match k with
  | 0 => ("RiverSteamers$Landing", "price", "I", false)
  | _ => ("RiverSteamers$Landing", "words", "LRiverSteamers$Words;", true)
def tyX3 : Nat → FieldType := fun k => match k with
  | 0 => .int
  | _ => .object "RiverSteamers$Words"
abbrev wsX30 : List Cond := u_ws RX3 TX3 2
theorem nmX3 : ∀ a, a < 2 → ∀ b, b < 2 → a ≠ b → (TX3 a).2.1 ≠ (TX3 b).2.1 := by decide +kernel
theorem tyX3_ok : ∀ k, k < 2 → parseFieldDescriptor (TX3 k).2.2.1 = some (tyX3 k) := by decide +kernel
abbrev cX3_init : ByteArray := prog_5_method_1_code
def yX3_init : MethodName := ⟨RX3, "<init>", "()V"⟩
abbrev cX3_copyFrom : ByteArray := prog_5_method_2_code
def yX3_copyFrom : MethodName := ⟨RX3, "copyFrom", "(LRiverSteamers$Landing;)V"⟩
def RX4 : String := "RiverSteamers$River"
def TX4 : u_T := fun k => match k with
  | 0 => ("RiverSteamers$River", "quarter", "I", false)
  | 1 => ("RiverSteamers$River", "stretchCount", "I", false)
  | 2 => ("RiverSteamers$River", "boatCount", "I", false)
  | 3 => ("RiverSteamers$River", "baleCount", "I", false)
  | 4 => ("RiverSteamers$River", "tripCount", "I", false)
  | 5 => ("RiverSteamers$River", "ruleCount", "I", false)
  | 6 => ("RiverSteamers$River", "daysTold", "I", false)
  | 7 => ("RiverSteamers$River", "paidRates", "I", false)
  | 8 => ("RiverSteamers$River", "heights", "[I", true)
  | 9 => ("RiverSteamers$River", "coldDays", "[Z", true)
  | 10 => ("RiverSteamers$River", "stretches", "[LRiverSteamers$Stretch;", true)
  | 11 => ("RiverSteamers$River", "landings", "[LRiverSteamers$Landing;", true)
  | 12 => ("RiverSteamers$River", "boats", "[LRiverSteamers$Boat;", true)
  | 13 => ("RiverSteamers$River", "bales", "[LRiverSteamers$Bale;", true)
  | 14 => ("RiverSteamers$River", "trips", "[LRiverSteamers$Trip;", true)
  | _ => ("RiverSteamers$River", "rules", "[LRiverSteamers$Rule;", true)
def tyX4 : Nat → FieldType := fun k => match k with
  | 0 => .int
  | 1 => .int
  | 2 => .int
  | 3 => .int
  | 4 => .int
  | 5 => .int
  | 6 => .int
  | 7 => .int
  | 8 => .array .int
  | 9 => .array .boolean
  | 10 => .array (.object "RiverSteamers$Stretch")
  | 11 => .array (.object "RiverSteamers$Landing")
  | 12 => .array (.object "RiverSteamers$Boat")
  | 13 => .array (.object "RiverSteamers$Bale")
  | 14 => .array (.object "RiverSteamers$Trip")
  | _ => .array (.object "RiverSteamers$Rule")
abbrev wsX40 : List Cond := u_ws RX4 TX4 16
theorem nmX4 : ∀ a, a < 16 → ∀ b, b < 16 → a ≠ b → (TX4 a).2.1 ≠ (TX4 b).2.1 := by decide +kernel
theorem tyX4_ok : ∀ k, k < 16 → parseFieldDescriptor (TX4 k).2.2.1 = some (tyX4 k) := by decide +kernel
abbrev cX4_init : ByteArray := prog_6_method_1_code
def yX4_init : MethodName := ⟨RX4, "<init>", "()V"⟩
abbrev cX4_copyFrom : ByteArray := prog_6_method_2_code
def yX4_copyFrom : MethodName := ⟨RX4, "copyFrom", "(LRiverSteamers$River;)V"⟩
abbrev cX4_copyThings : ByteArray := prog_6_method_3_code
def yX4_copyThings : MethodName := ⟨RX4, "copyThings", "(LRiverSteamers$River;)V"⟩
abbrev cX4_isStretch : ByteArray := prog_6_method_4_code
def yX4_isStretch : MethodName := ⟨RX4, "isStretch", "(I)Z"⟩
abbrev cX4_isLanding : ByteArray := prog_6_method_5_code
def yX4_isLanding : MethodName := ⟨RX4, "isLanding", "(I)Z"⟩
abbrev cX4_isBoat : ByteArray := prog_6_method_6_code
def yX4_isBoat : MethodName := ⟨RX4, "isBoat", "(I)Z"⟩
abbrev cX4_isBale : ByteArray := prog_6_method_7_code
def yX4_isBale : MethodName := ⟨RX4, "isBale", "(I)Z"⟩
abbrev cX4_isWay : ByteArray := prog_6_method_8_code
def yX4_isWay : MethodName := ⟨RX4, "isWay", "(II)Z"⟩
abbrev cX4_today : ByteArray := prog_6_method_9_code
def yX4_today : MethodName := ⟨RX4, "today", "()I"⟩
abbrev cX4_isNight : ByteArray := prog_6_method_10_code
def yX4_isNight : MethodName := ⟨RX4, "isNight", "()Z"⟩
abbrev cX4_tellHeight : ByteArray := prog_6_method_11_code
def yX4_tellHeight : MethodName := ⟨RX4, "tellHeight", "(II)V"⟩
abbrev cX4_heightOn : ByteArray := prog_6_method_12_code
def yX4_heightOn : MethodName := ⟨RX4, "heightOn", "(I)I"⟩
abbrev cX4_waterOn : ByteArray := prog_6_method_13_code
def yX4_waterOn : MethodName := ⟨RX4, "waterOn", "(II)I"⟩
abbrev cX4_longNow : ByteArray := prog_6_method_14_code
def yX4_longNow : MethodName := ⟨RX4, "longNow", "(I)I"⟩
abbrev cX4_longByDaylight : ByteArray := prog_6_method_15_code
def yX4_longByDaylight : MethodName := ⟨RX4, "longByDaylight", "(I)I"⟩
abbrev cX4_whyNot : ByteArray := prog_6_method_16_code
def yX4_whyNot : MethodName := ⟨RX4, "whyNot", "(LRiverSteamers$Boat;Z)I"⟩
abbrev cX4_setOut : ByteArray := prog_6_method_17_code
def yX4_setOut : MethodName := ⟨RX4, "setOut", "(LRiverSteamers$Boat;Z)I"⟩
abbrev cX4_goOneQuarter : ByteArray := prog_6_method_18_code
def yX4_goOneQuarter : MethodName := ⟨RX4, "goOneQuarter", "()V"⟩
abbrev cX4_comeTo : ByteArray := prog_6_method_19_code
def yX4_comeTo : MethodName := ⟨RX4, "comeTo", "(LRiverSteamers$Boat;I)V"⟩
abbrev cX4_carrierOf : ByteArray := prog_6_method_20_code
def yX4_carrierOf : MethodName := ⟨RX4, "carrierOf", "(LRiverSteamers$Bale;)LRiverSteamers$Boat;"⟩
abbrev cX4_boatsAground : ByteArray := prog_6_method_21_code
def yX4_boatsAground : MethodName := ⟨RX4, "boatsAground", "()I"⟩
abbrev cX4_darkCrossings : ByteArray := prog_6_method_22_code
def yX4_darkCrossings : MethodName := ⟨RX4, "darkCrossings", "()I"⟩
abbrev cX4_tripsBear : ByteArray := prog_6_method_23_code
def yX4_tripsBear : MethodName := ⟨RX4, "tripsBear", "(I)Z"⟩
def RX5 : String := "RiverSteamers$Rule"
def TX5 : u_T := fun k => match k with
  | 0 => ("RiverSteamers$Rule", "kind", "I", false)
  | 1 => ("RiverSteamers$Rule", "how", "I", false)
  | 2 => ("RiverSteamers$Rule", "firstDay", "I", false)
  | _ => ("RiverSteamers$Rule", "lastDay", "I", false)
def tyX5 : Nat → FieldType := fun k => match k with
  | 0 => .int
  | 1 => .int
  | 2 => .int
  | _ => .int
abbrev wsX50 : List Cond := u_ws RX5 TX5 4
theorem nmX5 : ∀ a, a < 4 → ∀ b, b < 4 → a ≠ b → (TX5 a).2.1 ≠ (TX5 b).2.1 := by decide +kernel
theorem tyX5_ok : ∀ k, k < 4 → parseFieldDescriptor (TX5 k).2.2.1 = some (tyX5 k) := by decide +kernel
abbrev cX5_init : ByteArray := prog_7_method_1_code
def yX5_init : MethodName := ⟨RX5, "<init>", "()V"⟩
abbrev cX5_begin : ByteArray := prog_7_method_2_code
def yX5_begin : MethodName := ⟨RX5, "begin", "(IIII)V"⟩
abbrev cX5_copyFrom : ByteArray := prog_7_method_3_code
def yX5_copyFrom : MethodName := ⟨RX5, "copyFrom", "(LRiverSteamers$Rule;)V"⟩
abbrev cX5_isInForce : ByteArray := prog_7_method_4_code
def yX5_isInForce : MethodName := ⟨RX5, "isInForce", "(I)Z"⟩
def RX6 : String := "RiverSteamers$Sheet"
def TX6 : u_T := fun k => match k with
  | 0 => ("RiverSteamers$Sheet", "sort", "I", false)
  | 1 => ("RiverSteamers$Sheet", "size", "I", false)
  | _ => ("RiverSteamers$Sheet", "numbers", "[I", true)
def tyX6 : Nat → FieldType := fun k => match k with
  | 0 => .int
  | 1 => .int
  | _ => .array .int
abbrev wsX60 : List Cond := u_ws RX6 TX6 3
theorem nmX6 : ∀ a, a < 3 → ∀ b, b < 3 → a ≠ b → (TX6 a).2.1 ≠ (TX6 b).2.1 := by decide +kernel
theorem tyX6_ok : ∀ k, k < 3 → parseFieldDescriptor (TX6 k).2.2.1 = some (tyX6 k) := by decide +kernel
abbrev cX6_init : ByteArray := prog_8_method_1_code
def yX6_init : MethodName := ⟨RX6, "<init>", "()V"⟩
abbrev cX6_begin : ByteArray := prog_8_method_2_code
def yX6_begin : MethodName := ⟨RX6, "begin", "(II)V"⟩
abbrev cX6_isMissing : ByteArray := prog_8_method_3_code
def yX6_isMissing : MethodName := ⟨RX6, "isMissing", "()Z"⟩
abbrev cX6_hasPlace : ByteArray := prog_8_method_4_code
def yX6_hasPlace : MethodName := ⟨RX6, "hasPlace", "(I)Z"⟩
abbrev cX6_faultAs : ByteArray := prog_8_method_5_code
def yX6_faultAs : MethodName := ⟨RX6, "faultAs", "(I)I"⟩
abbrev cX6_put : ByteArray := prog_8_method_6_code
def yX6_put : MethodName := ⟨RX6, "put", "(II)V"⟩
def RX7 : String := "RiverSteamers$Stretch"
def TX7 : u_T := fun k => match k with
  | 0 => ("RiverSteamers$Stretch", "number", "I", false)
  | 1 => ("RiverSteamers$Stretch", "kind", "I", false)
  | 2 => ("RiverSteamers$Stretch", "length", "I", false)
  | 3 => ("RiverSteamers$Stretch", "depth", "I", false)
  | 4 => ("RiverSteamers$Stretch", "lit", "Z", false)
  | _ => ("RiverSteamers$Stretch", "shifts", "[I", true)
def tyX7 : Nat → FieldType := fun k => match k with
  | 0 => .int
  | 1 => .int
  | 2 => .int
  | 3 => .int
  | 4 => .boolean
  | _ => .array .int
abbrev wsX70 : List Cond := u_ws RX7 TX7 6
theorem nmX7 : ∀ a, a < 6 → ∀ b, b < 6 → a ≠ b → (TX7 a).2.1 ≠ (TX7 b).2.1 := by decide +kernel
theorem tyX7_ok : ∀ k, k < 6 → parseFieldDescriptor (TX7 k).2.2.1 = some (tyX7 k) := by decide +kernel
abbrev cX7_init : ByteArray := prog_9_method_1_code
def yX7_init : MethodName := ⟨RX7, "<init>", "()V"⟩
abbrev cX7_begin : ByteArray := prog_9_method_2_code
def yX7_begin : MethodName := ⟨RX7, "begin", "(IIII)V"⟩
abbrev cX7_copyFrom : ByteArray := prog_9_method_3_code
def yX7_copyFrom : MethodName := ⟨RX7, "copyFrom", "(LRiverSteamers$Stretch;)V"⟩
abbrev cX7_shiftOn : ByteArray := prog_9_method_4_code
def yX7_shiftOn : MethodName := ⟨RX7, "shiftOn", "(I)I"⟩
def RX8 : String := "RiverSteamers$Trip"
def TX8 : u_T := fun k => match k with
  | 0 => ("RiverSteamers$Trip", "from", "I", false)
  | 1 => ("RiverSteamers$Trip", "to", "I", false)
  | _ => ("RiverSteamers$Trip", "waits", "I", false)
def tyX8 : Nat → FieldType := fun k => match k with
  | 0 => .int
  | 1 => .int
  | _ => .int
abbrev wsX80 : List Cond := u_ws RX8 TX8 3
theorem nmX8 : ∀ a, a < 3 → ∀ b, b < 3 → a ≠ b → (TX8 a).2.1 ≠ (TX8 b).2.1 := by decide +kernel
theorem tyX8_ok : ∀ k, k < 3 → parseFieldDescriptor (TX8 k).2.2.1 = some (tyX8 k) := by decide +kernel
abbrev cX8_init : ByteArray := prog_10_method_1_code
def yX8_init : MethodName := ⟨RX8, "<init>", "()V"⟩
abbrev cX8_begin : ByteArray := prog_10_method_2_code
def yX8_begin : MethodName := ⟨RX8, "begin", "(III)V"⟩
abbrev cX8_copyFrom : ByteArray := prog_10_method_3_code
def yX8_copyFrom : MethodName := ⟨RX8, "copyFrom", "(LRiverSteamers$Trip;)V"⟩
abbrev cX8_wayBits : ByteArray := prog_10_method_4_code
def yX8_wayBits : MethodName := ⟨RX8, "wayBits", "()I"⟩
def RX9 : String := "RiverSteamers$Wooding"
def TX9 : u_T := fun k => match k with
  | 0 => ("RiverSteamers$Wooding", "steps", "I", false)
  | 1 => ("RiverSteamers$Wooding", "tank", "I", false)
  | 2 => ("RiverSteamers$Wooding", "prices", "[I", true)
  | 3 => ("RiverSteamers$Wooding", "needs", "[I", true)
  | _ => ("RiverSteamers$Wooding", "least", "[I", true)
def tyX9 : Nat → FieldType := fun k => match k with
  | 0 => .int
  | 1 => .int
  | 2 => .array .int
  | 3 => .array .int
  | _ => .array .int
abbrev wsX90 : List Cond := u_ws RX9 TX9 5
theorem nmX9 : ∀ a, a < 5 → ∀ b, b < 5 → a ≠ b → (TX9 a).2.1 ≠ (TX9 b).2.1 := by decide +kernel
theorem tyX9_ok : ∀ k, k < 5 → parseFieldDescriptor (TX9 k).2.2.1 = some (tyX9 k) := by decide +kernel
abbrev cX9_init : ByteArray := prog_11_method_1_code
def yX9_init : MethodName := ⟨RX9, "<init>", "()V"⟩
abbrev cX9_workOut : ByteArray := prog_11_method_2_code
def yX9_workOut : MethodName := ⟨RX9, "workOut", "(LRiverSteamers$River;III)V"⟩
abbrev cX9_workOutStep : ByteArray := prog_11_method_3_code
def yX9_workOutStep : MethodName := ⟨RX9, "workOutStep", "(I)V"⟩
abbrev cX9_costOnward : ByteArray := prog_11_method_4_code
def yX9_costOnward : MethodName := ⟨RX9, "costOnward", "(II)I"⟩
abbrev cX9_leastCost : ByteArray := prog_11_method_5_code
def yX9_leastCost : MethodName := ⟨RX9, "leastCost", "()I"⟩
abbrev cX9_cordsAt : ByteArray := prog_11_method_6_code
def yX9_cordsAt : MethodName := ⟨RX9, "cordsAt", "(I)I"⟩
abbrev cX9_cordsFrom : ByteArray := prog_11_method_7_code
def yX9_cordsFrom : MethodName := ⟨RX9, "cordsFrom", "(II)I"⟩
def RX10 : String := "RiverSteamers$Words"
def TX10 : u_T := fun k => match k with
  | 0 => ("RiverSteamers$Words", "waters", "[I", true)
  | _ => ("RiverSteamers$Words", "quarters", "[I", true)
def tyX10 : Nat → FieldType := fun k => match k with
  | 0 => .array .int
  | _ => .array .int
abbrev wsX100 : List Cond := u_ws RX10 TX10 2
theorem nmX10 : ∀ a, a < 2 → ∀ b, b < 2 → a ≠ b → (TX10 a).2.1 ≠ (TX10 b).2.1 := by decide +kernel
theorem tyX10_ok : ∀ k, k < 2 → parseFieldDescriptor (TX10 k).2.2.1 = some (tyX10 k) := by decide +kernel
abbrev cX10_init : ByteArray := prog_12_method_1_code
def yX10_init : MethodName := ⟨RX10, "<init>", "()V"⟩
abbrev cX10_forgetAll : ByteArray := prog_12_method_2_code
def yX10_forgetAll : MethodName := ⟨RX10, "forgetAll", "()V"⟩
abbrev cX10_copyFrom : ByteArray := prog_12_method_3_code
def yX10_copyFrom : MethodName := ⟨RX10, "copyFrom", "(LRiverSteamers$Words;)V"⟩
abbrev cX10_isKnown : ByteArray := prog_12_method_4_code
def yX10_isKnown : MethodName := ⟨RX10, "isKnown", "(I)Z"⟩
abbrev cX10_learn : ByteArray := prog_12_method_5_code
def yX10_learn : MethodName := ⟨RX10, "learn", "(III)V"⟩
abbrev cX10_exchange : ByteArray := prog_12_method_6_code
def yX10_exchange : MethodName := ⟨RX10, "exchange", "(LRiverSteamers$Words;)V"⟩
abbrev cX10_toldOf : ByteArray := prog_12_method_7_code
def yX10_toldOf : MethodName := ⟨RX10, "toldOf", "(II)I"⟩
def RX11 : String := "RiverSteamers"
def TX11 : u_T := fun k => match k with
  | 0 => ("RiverSteamers", "river", "LRiverSteamers$River;", true)
  | 1 => ("RiverSteamers", "kept", "LRiverSteamers$River;", false)
  | 2 => ("RiverSteamers", "timesBack", "I", false)
  | 3 => ("RiverSteamers", "latestStatus", "I", false)
  | 4 => ("RiverSteamers", "sheets", "[LRiverSteamers$Sheet;", true)
  | 5 => ("RiverSteamers", "acts", "LRiverSteamers$Acts;", true)
  | 6 => ("RiverSteamers", "woodPlan", "LRiverSteamers$Wooding;", true)
  | _ => ("RiverSteamers", "choice", "[I", true)
def tyX11 : Nat → FieldType := fun k => match k with
  | 0 => .object "RiverSteamers$River"
  | 1 => .object "RiverSteamers$River"
  | 2 => .int
  | 3 => .int
  | 4 => .array (.object "RiverSteamers$Sheet")
  | 5 => .object "RiverSteamers$Acts"
  | 6 => .object "RiverSteamers$Wooding"
  | _ => .array .int
abbrev wsX110 : List Cond := u_ws RX11 TX11 8
theorem nmX11 : ∀ a, a < 8 → ∀ b, b < 8 → a ≠ b → (TX11 a).2.1 ≠ (TX11 b).2.1 := by decide +kernel
theorem tyX11_ok : ∀ k, k < 8 → parseFieldDescriptor (TX11 k).2.2.1 = some (tyX11 k) := by decide +kernel
abbrev cX11_init : ByteArray := prog_1_method_1_code
def yX11_init : MethodName := ⟨RX11, "<init>", "()V"⟩
abbrev cX11_stretch : ByteArray := prog_1_method_2_code
def yX11_stretch : MethodName := ⟨RX11, "stretch", "(III)I"⟩
abbrev cX11_gauge : ByteArray := prog_1_method_3_code
def yX11_gauge : MethodName := ⟨RX11, "gauge", "(II)I"⟩
abbrev cX11_shift : ByteArray := prog_1_method_4_code
def yX11_shift : MethodName := ⟨RX11, "shift", "(III)I"⟩
abbrev cX11_cold : ByteArray := prog_1_method_5_code
def yX11_cold : MethodName := ⟨RX11, "cold", "(IZ)I"⟩
abbrev cX11_light : ByteArray := prog_1_method_6_code
def yX11_light : MethodName := ⟨RX11, "light", "(IZ)I"⟩
abbrev cX11_boat : ByteArray := prog_1_method_7_code
def yX11_boat : MethodName := ⟨RX11, "boat", "(IIII)I"⟩
abbrev cX11_bale : ByteArray := prog_1_method_8_code
def yX11_bale : MethodName := ⟨RX11, "bale", "(IIII)I"⟩
abbrev cX11_lade : ByteArray := prog_1_method_9_code
def yX11_lade : MethodName := ⟨RX11, "lade", "(II)I"⟩
abbrev cX11_land : ByteArray := prog_1_method_10_code
def yX11_land : MethodName := ⟨RX11, "land", "(I)I"⟩
abbrev cX11_lose : ByteArray := prog_1_method_11_code
def yX11_lose : MethodName := ⟨RX11, "lose", "(I)I"⟩
abbrev cX11_leave : ByteArray := prog_1_method_12_code
def yX11_leave : MethodName := ⟨RX11, "leave", "(IZ)I"⟩
abbrev cX11_off : ByteArray := prog_1_method_13_code
def yX11_off : MethodName := ⟨RX11, "off", "(I)I"⟩
abbrev cX11_go : ByteArray := prog_1_method_14_code
def yX11_go : MethodName := ⟨RX11, "go", "(I)I"⟩
abbrev cX11_yard : ByteArray := prog_1_method_15_code
def yX11_yard : MethodName := ⟨RX11, "yard", "(II)I"⟩
abbrev cX11_wood : ByteArray := prog_1_method_16_code
def yX11_wood : MethodName := ⟨RX11, "wood", "(II)I"⟩
abbrev cX11_trip : ByteArray := prog_1_method_17_code
def yX11_trip : MethodName := ⟨RX11, "trip", "(III)I"⟩
abbrev cX11_rule : ByteArray := prog_1_method_18_code
def yX11_rule : MethodName := ⟨RX11, "rule", "(III)I"⟩
abbrev cX11_image : ByteArray := prog_1_method_19_code
def yX11_image : MethodName := ⟨RX11, "image", "()I"⟩
abbrev cX11_back : ByteArray := prog_1_method_20_code
def yX11_back : MethodName := ⟨RX11, "back", "()I"⟩
abbrev cX11_height : ByteArray := prog_1_method_21_code
def yX11_height : MethodName := ⟨RX11, "height", "(I)I"⟩
abbrev cX11_stretchTold : ByteArray := prog_1_method_22_code
def yX11_stretchTold : MethodName := ⟨RX11, "stretchTold", "(II)I"⟩
abbrev cX11_water : ByteArray := prog_1_method_23_code
def yX11_water : MethodName := ⟨RX11, "water", "(II)I"⟩
abbrev cX11_boatTold : ByteArray := prog_1_method_24_code
def yX11_boatTold : MethodName := ⟨RX11, "boatTold", "(II)I"⟩
abbrev cX11_baleTold : ByteArray := prog_1_method_25_code
def yX11_baleTold : MethodName := ⟨RX11, "baleTold", "(II)I"⟩
abbrev cX11_why : ByteArray := prog_1_method_26_code
def yX11_why : MethodName := ⟨RX11, "why", "(IZ)I"⟩
abbrev cX11_knows : ByteArray := prog_1_method_27_code
def yX11_knows : MethodName := ⟨RX11, "knows", "(III)I"⟩
abbrev cX11_box : ByteArray := prog_1_method_28_code
def yX11_box : MethodName := ⟨RX11, "box", "(III)I"⟩
abbrev cX11_lading : ByteArray := prog_1_method_29_code
def yX11_lading : MethodName := ⟨RX11, "lading", "(II)I"⟩
abbrev cX11_wooding : ByteArray := prog_1_method_30_code
def yX11_wooding : MethodName := ⟨RX11, "wooding", "(III)I"⟩
abbrev cX11_bought : ByteArray := prog_1_method_31_code
def yX11_bought : MethodName := ⟨RX11, "bought", "(IIII)I"⟩
abbrev cX11_lights : ByteArray := prog_1_method_32_code
def yX11_lights : MethodName := ⟨RX11, "lights", "()I"⟩
abbrev cX11_gives : ByteArray := prog_1_method_33_code
def yX11_gives : MethodName := ⟨RX11, "gives", "(IIIZZ)I"⟩
abbrev cX11_count : ByteArray := prog_1_method_34_code
def yX11_count : MethodName := ⟨RX11, "count", "(I)I"⟩
abbrev cX11_act : ByteArray := prog_1_method_35_code
def yX11_act : MethodName := ⟨RX11, "act", "(III)I"⟩
abbrev cX11_trace : ByteArray := prog_1_method_36_code
def yX11_trace : MethodName := ⟨RX11, "trace", "(I)I"⟩
abbrev cX11_sheet : ByteArray := prog_1_method_37_code
def yX11_sheet : MethodName := ⟨RX11, "sheet", "(III)I"⟩
abbrev cX11_cell : ByteArray := prog_1_method_38_code
def yX11_cell : MethodName := ⟨RX11, "cell", "(III)I"⟩
abbrev cX11_none : ByteArray := prog_1_method_39_code
def yX11_none : MethodName := ⟨RX11, "none", "(II)I"⟩
abbrev cX11_gauges : ByteArray := prog_1_method_40_code
def yX11_gauges : MethodName := ⟨RX11, "gauges", "(IIII)I"⟩
abbrev cX11_forge : ByteArray := prog_1_method_41_code
def yX11_forge : MethodName := ⟨RX11, "forge", "(III)I"⟩
abbrev cX11_status : ByteArray := prog_1_method_42_code
def yX11_status : MethodName := ⟨RX11, "status", "()I"⟩
abbrev cX11_done : ByteArray := prog_1_method_43_code
def yX11_done : MethodName := ⟨RX11, "done", "(I)I"⟩
abbrev cX11_refused : ByteArray := prog_1_method_44_code
def yX11_refused : MethodName := ⟨RX11, "refused", "(I)I"⟩
abbrev cX11_isWithin : ByteArray := prog_1_method_45_code
def yX11_isWithin : MethodName := ⟨RX11, "isWithin", "(III)Z"⟩
abbrev cX11_isDay : ByteArray := prog_1_method_46_code
def yX11_isDay : MethodName := ⟨RX11, "isDay", "(I)Z"⟩
abbrev cX11_isSheet : ByteArray := prog_1_method_47_code
def yX11_isSheet : MethodName := ⟨RX11, "isSheet", "(I)Z"⟩
abbrev cX11_isUnder : ByteArray := prog_1_method_48_code
def yX11_isUnder : MethodName := ⟨RX11, "isUnder", "(II)Z"⟩
abbrev cX11_listBalesAt : ByteArray := prog_1_method_49_code
def yX11_listBalesAt : MethodName := ⟨RX11, "listBalesAt", "(I)I"⟩
abbrev cX11_bestSet : ByteArray := prog_1_method_50_code
def yX11_bestSet : MethodName := ⟨RX11, "bestSet", "(LRiverSteamers$Boat;II)I"⟩
abbrev cX11_yieldingBy : ByteArray := prog_1_method_51_code
def yX11_yieldingBy : MethodName := ⟨RX11, "yieldingBy", "(IIIZZ)I"⟩
abbrev cX11_tellFromFloat : ByteArray := prog_1_method_52_code
def yX11_tellFromFloat : MethodName := ⟨RX11, "tellFromFloat", "(II)V"⟩
abbrev cX11_forgeKind : ByteArray := prog_1_method_53_code
def yX11_forgeKind : MethodName := ⟨RX11, "forgeKind", "(II)I"⟩
abbrev cX11_forgeShort : ByteArray := prog_1_method_54_code
def yX11_forgeShort : MethodName := ⟨RX11, "forgeShort", "(LRiverSteamers$Sheet;I)I"⟩
abbrev cX11_forgeCopy : ByteArray := prog_1_method_55_code
def yX11_forgeCopy : MethodName := ⟨RX11, "forgeCopy", "(LRiverSteamers$Sheet;I)I"⟩
abbrev cX11_forgeRow : ByteArray := prog_1_method_56_code
def yX11_forgeRow : MethodName := ⟨RX11, "forgeRow", "(I)I"⟩
def RX12 : String := "RiverSteamersModel"
def TX12 : u_T := fun k => match k with
  | 0 => ("RiverSteamersModel", "status", "I", false)
  | 1 => ("RiverSteamersModel", "quarter", "I", false)
  | 2 => ("RiverSteamersModel", "stretches", "I", false)
  | 3 => ("RiverSteamersModel", "kind", "[I", true)
  | 4 => ("RiverSteamersModel", "length", "[I", true)
  | 5 => ("RiverSteamersModel", "depth", "[I", true)
  | 6 => ("RiverSteamersModel", "lit", "[Z", true)
  | 7 => ("RiverSteamersModel", "shift", "[I", true)
  | 8 => ("RiverSteamersModel", "isShifted", "[Z", true)
  | 9 => ("RiverSteamersModel", "height", "[I", true)
  | 10 => ("RiverSteamersModel", "isTold", "[Z", true)
  | 11 => ("RiverSteamersModel", "isCold", "[Z", true)
  | 12 => ("RiverSteamersModel", "boats", "I", false)
  | 13 => ("RiverSteamersModel", "hull", "[I", true)
  | 14 => ("RiverSteamersModel", "room", "[I", true)
  | 15 => ("RiverSteamersModel", "tank", "[I", true)
  | 16 => ("RiverSteamersModel", "how", "[I", true)
  | 17 => ("RiverSteamersModel", "at", "[I", true)
  | 18 => ("RiverSteamersModel", "left", "[I", true)
  | 19 => ("RiverSteamersModel", "till", "[I", true)
  | 20 => ("RiverSteamersModel", "wood", "[I", true)
  | 21 => ("RiverSteamersModel", "wordWater", "[I", true)
  | 22 => ("RiverSteamersModel", "wordAt", "[I", true)
  | 23 => ("RiverSteamersModel", "price", "[I", true)
  | 24 => ("RiverSteamersModel", "bales", "I", false)
  | 25 => ("RiverSteamersModel", "baleTo", "[I", true)
  | 26 => ("RiverSteamersModel", "weight", "[I", true)
  | 27 => ("RiverSteamersModel", "rate", "[I", true)
  | 28 => ("RiverSteamersModel", "baleHow", "[I", true)
  | 29 => ("RiverSteamersModel", "baleAt", "[I", true)
  | 30 => ("RiverSteamersModel", "paid", "I", false)
  | 31 => ("RiverSteamersModel", "trips", "I", false)
  | 32 => ("RiverSteamersModel", "tripFrom", "[I", true)
  | 33 => ("RiverSteamersModel", "tripTo", "[I", true)
  | 34 => ("RiverSteamersModel", "waits", "[I", true)
  | 35 => ("RiverSteamersModel", "rules", "I", false)
  | 36 => ("RiverSteamersModel", "ruleKind", "[I", true)
  | 37 => ("RiverSteamersModel", "ruleHow", "[I", true)
  | 38 => ("RiverSteamersModel", "ruleFirst", "[I", true)
  | 39 => ("RiverSteamersModel", "ruleLast", "[I", true)
  | 40 => ("RiverSteamersModel", "cost", "[I", true)
  | 41 => ("RiverSteamersModel", "buys", "[I", true)
  | 42 => ("RiverSteamersModel", "took", "[I", true)
  | 43 => ("RiverSteamersModel", "legs", "I", false)
  | 44 => ("RiverSteamersModel", "hasImage", "Z", false)
  | 45 => ("RiverSteamersModel", "backs", "I", false)
  | 46 => ("RiverSteamersModel", "keptCounts", "[I", true)
  | 47 => ("RiverSteamersModel", "keptLit", "[Z", true)
  | 48 => ("RiverSteamersModel", "keptShift", "[I", true)
  | 49 => ("RiverSteamersModel", "keptShifted", "[Z", true)
  | 50 => ("RiverSteamersModel", "keptHeight", "[I", true)
  | 51 => ("RiverSteamersModel", "keptTold", "[Z", true)
  | 52 => ("RiverSteamersModel", "keptCold", "[Z", true)
  | 53 => ("RiverSteamersModel", "keptBoats", "[I", true)
  | 54 => ("RiverSteamersModel", "keptWater", "[I", true)
  | 55 => ("RiverSteamersModel", "keptAt", "[I", true)
  | 56 => ("RiverSteamersModel", "keptPrice", "[I", true)
  | 57 => ("RiverSteamersModel", "keptBales", "[I", true)
  | 58 => ("RiverSteamersModel", "trace", "[I", true)
  | 59 => ("RiverSteamersModel", "traces", "I", false)
  | 60 => ("RiverSteamersModel", "sheetSort", "[I", true)
  | 61 => ("RiverSteamersModel", "sheetSize", "[I", true)
  | 62 => ("RiverSteamersModel", "cells", "[I", true)
  | _ => ("RiverSteamersModel", "isNone", "[Z", true)
def tyX12 : Nat → FieldType := fun k => match k with
  | 0 => .int
  | 1 => .int
  | 2 => .int
  | 3 => .array .int
  | 4 => .array .int
  | 5 => .array .int
  | 6 => .array .boolean
  | 7 => .array .int
  | 8 => .array .boolean
  | 9 => .array .int
  | 10 => .array .boolean
  | 11 => .array .boolean
  | 12 => .int
  | 13 => .array .int
  | 14 => .array .int
  | 15 => .array .int
  | 16 => .array .int
  | 17 => .array .int
  | 18 => .array .int
  | 19 => .array .int
  | 20 => .array .int
  | 21 => .array .int
  | 22 => .array .int
  | 23 => .array .int
  | 24 => .int
  | 25 => .array .int
  | 26 => .array .int
  | 27 => .array .int
  | 28 => .array .int
  | 29 => .array .int
  | 30 => .int
  | 31 => .int
  | 32 => .array .int
  | 33 => .array .int
  | 34 => .array .int
  | 35 => .int
  | 36 => .array .int
  | 37 => .array .int
  | 38 => .array .int
  | 39 => .array .int
  | 40 => .array .int
  | 41 => .array .int
  | 42 => .array .int
  | 43 => .int
  | 44 => .boolean
  | 45 => .int
  | 46 => .array .int
  | 47 => .array .boolean
  | 48 => .array .int
  | 49 => .array .boolean
  | 50 => .array .int
  | 51 => .array .boolean
  | 52 => .array .boolean
  | 53 => .array .int
  | 54 => .array .int
  | 55 => .array .int
  | 56 => .array .int
  | 57 => .array .int
  | 58 => .array .int
  | 59 => .int
  | 60 => .array .int
  | 61 => .array .int
  | 62 => .array .int
  | _ => .array .boolean
abbrev wsX120 : List Cond := u_ws RX12 TX12 64
theorem nmX12 : ∀ a, a < 64 → ∀ b, b < 64 → a ≠ b → (TX12 a).2.1 ≠ (TX12 b).2.1 := by decide +kernel
theorem tyX12_ok : ∀ k, k < 64 → parseFieldDescriptor (TX12 k).2.2.1 = some (tyX12 k) := by decide +kernel
abbrev cX12_init : ByteArray := prog_14_method_2_code
def yX12_init : MethodName := ⟨RX12, "<init>", "()V"⟩
abbrev cX12_in : ByteArray := prog_14_method_3_code
def yX12_in : MethodName := ⟨RX12, "in", "(III)Z"⟩
abbrev cX12_refused : ByteArray := prog_14_method_4_code
def yX12_refused : MethodName := ⟨RX12, "refused", "(I)I"⟩
abbrev cX12_done : ByteArray := prog_14_method_5_code
def yX12_done : MethodName := ⟨RX12, "done", "(I)I"⟩
abbrev cX12_isStretch : ByteArray := prog_14_method_6_code
def yX12_isStretch : MethodName := ⟨RX12, "isStretch", "(I)Z"⟩
abbrev cX12_isLanding : ByteArray := prog_14_method_7_code
def yX12_isLanding : MethodName := ⟨RX12, "isLanding", "(I)Z"⟩
abbrev cX12_isBoat : ByteArray := prog_14_method_8_code
def yX12_isBoat : MethodName := ⟨RX12, "isBoat", "(I)Z"⟩
abbrev cX12_isBale : ByteArray := prog_14_method_9_code
def yX12_isBale : MethodName := ⟨RX12, "isBale", "(I)Z"⟩
abbrev cX12_isDay : ByteArray := prog_14_method_10_code
def yX12_isDay : MethodName := ⟨RX12, "isDay", "(I)Z"⟩
abbrev cX12_today : ByteArray := prog_14_method_11_code
def yX12_today : MethodName := ⟨RX12, "today", "()I"⟩
abbrev cX12_isNight : ByteArray := prog_14_method_12_code
def yX12_isNight : MethodName := ⟨RX12, "isNight", "()Z"⟩
abbrev cX12_stretch : ByteArray := prog_14_method_13_code
def yX12_stretch : MethodName := ⟨RX12, "stretch", "(III)I"⟩
abbrev cX12_told : ByteArray := prog_14_method_14_code
def yX12_told : MethodName := ⟨RX12, "told", "()I"⟩
abbrev cX12_gauge : ByteArray := prog_14_method_15_code
def yX12_gauge : MethodName := ⟨RX12, "gauge", "(II)I"⟩
abbrev cX12_isBar : ByteArray := prog_14_method_16_code
def yX12_isBar : MethodName := ⟨RX12, "isBar", "(I)Z"⟩
abbrev cX12_shift : ByteArray := prog_14_method_17_code
def yX12_shift : MethodName := ⟨RX12, "shift", "(III)I"⟩
abbrev cX12_cold : ByteArray := prog_14_method_18_code
def yX12_cold : MethodName := ⟨RX12, "cold", "(IZ)I"⟩
abbrev cX12_light : ByteArray := prog_14_method_19_code
def yX12_light : MethodName := ⟨RX12, "light", "(IZ)I"⟩
abbrev cX12_heightOf : ByteArray := prog_14_method_20_code
def yX12_heightOf : MethodName := ⟨RX12, "heightOf", "(I)I"⟩
abbrev cX12_height : ByteArray := prog_14_method_21_code
def yX12_height : MethodName := ⟨RX12, "height", "(I)I"⟩
abbrev cX12_shiftOf : ByteArray := prog_14_method_22_code
def yX12_shiftOf : MethodName := ⟨RX12, "shiftOf", "(II)I"⟩
abbrev cX12_waterOf : ByteArray := prog_14_method_23_code
def yX12_waterOf : MethodName := ⟨RX12, "waterOf", "(II)I"⟩
abbrev cX12_water : ByteArray := prog_14_method_24_code
def yX12_water : MethodName := ⟨RX12, "water", "(II)I"⟩
abbrev cX12_longOf : ByteArray := prog_14_method_25_code
def yX12_longOf : MethodName := ⟨RX12, "longOf", "(IZ)I"⟩
abbrev cX12_stretchTold : ByteArray := prog_14_method_26_code
def yX12_stretchTold : MethodName := ⟨RX12, "stretchTold", "(II)I"⟩
abbrev cX12_boat : ByteArray := prog_14_method_27_code
def yX12_boat : MethodName := ⟨RX12, "boat", "(IIII)I"⟩
abbrev cX12_aboard : ByteArray := prog_14_method_28_code
def yX12_aboard : MethodName := ⟨RX12, "aboard", "(I)I"⟩
abbrev cX12_draught : ByteArray := prog_14_method_29_code
def yX12_draught : MethodName := ⟨RX12, "draught", "(I)I"⟩
abbrev cX12_bale : ByteArray := prog_14_method_30_code
def yX12_bale : MethodName := ⟨RX12, "bale", "(IIII)I"⟩
abbrev cX12_lade : ByteArray := prog_14_method_31_code
def yX12_lade : MethodName := ⟨RX12, "lade", "(II)I"⟩
abbrev cX12_land : ByteArray := prog_14_method_32_code
def yX12_land : MethodName := ⟨RX12, "land", "(I)I"⟩
abbrev cX12_lose : ByteArray := prog_14_method_33_code
def yX12_lose : MethodName := ⟨RX12, "lose", "(I)I"⟩
abbrev cX12_hears : ByteArray := prog_14_method_34_code
def yX12_hears : MethodName := ⟨RX12, "hears", "(II)V"⟩
abbrev cX12_comes : ByteArray := prog_14_method_35_code
def yX12_comes : MethodName := ⟨RX12, "comes", "(II)V"⟩
abbrev cX12_ahead : ByteArray := prog_14_method_36_code
def yX12_ahead : MethodName := ⟨RX12, "ahead", "(IZ)I"⟩
abbrev cX12_whyNot : ByteArray := prog_14_method_37_code
def yX12_whyNot : MethodName := ⟨RX12, "whyNot", "(IZ)I"⟩
abbrev cX12_why : ByteArray := prog_14_method_38_code
def yX12_why : MethodName := ⟨RX12, "why", "(IZ)I"⟩
abbrev cX12_leave : ByteArray := prog_14_method_39_code
def yX12_leave : MethodName := ⟨RX12, "leave", "(IZ)I"⟩
abbrev cX12_off : ByteArray := prog_14_method_40_code
def yX12_off : MethodName := ⟨RX12, "off", "(I)I"⟩
abbrev cX12_go : ByteArray := prog_14_method_41_code
def yX12_go : MethodName := ⟨RX12, "go", "(I)I"⟩
abbrev cX12_knows : ByteArray := prog_14_method_42_code
def yX12_knows : MethodName := ⟨RX12, "knows", "(III)I"⟩
abbrev cX12_box : ByteArray := prog_14_method_43_code
def yX12_box : MethodName := ⟨RX12, "box", "(III)I"⟩
abbrev cX12_word : ByteArray := prog_14_method_44_code
def yX12_word : MethodName := ⟨RX12, "word", "(II)I"⟩
abbrev cX12_boatTold : ByteArray := prog_14_method_45_code
def yX12_boatTold : MethodName := ⟨RX12, "boatTold", "(II)I"⟩
abbrev cX12_baleTold : ByteArray := prog_14_method_46_code
def yX12_baleTold : MethodName := ⟨RX12, "baleTold", "(II)I"⟩
abbrev cX12_sumOf : ByteArray := prog_14_method_47_code
def yX12_sumOf : MethodName := ⟨RX12, "sumOf", "(IZ)I"⟩
abbrev cX12_lading : ByteArray := prog_14_method_48_code
def yX12_lading : MethodName := ⟨RX12, "lading", "(II)I"⟩
abbrev cX12_yard : ByteArray := prog_14_method_49_code
def yX12_yard : MethodName := ⟨RX12, "yard", "(II)I"⟩
abbrev cX12_wood : ByteArray := prog_14_method_50_code
def yX12_wood : MethodName := ⟨RX12, "wood", "(II)I"⟩
abbrev cX12_landingOf : ByteArray := prog_14_method_51_code
def yX12_landingOf : MethodName := ⟨RX12, "landingOf", "(III)I"⟩
abbrev cX12_stretchOf : ByteArray := prog_14_method_52_code
def yX12_stretchOf : MethodName := ⟨RX12, "stretchOf", "(III)I"⟩
abbrev cX12_buysAt : ByteArray := prog_14_method_53_code
def yX12_buysAt : MethodName := ⟨RX12, "buysAt", "(IIIII)V"⟩
abbrev cX12_findWood : ByteArray := prog_14_method_54_code
def yX12_findWood : MethodName := ⟨RX12, "findWood", "(III)I"⟩
abbrev cX12_wooding : ByteArray := prog_14_method_55_code
def yX12_wooding : MethodName := ⟨RX12, "wooding", "(III)I"⟩
abbrev cX12_bought : ByteArray := prog_14_method_56_code
def yX12_bought : MethodName := ⟨RX12, "bought", "(IIII)I"⟩
abbrev cX12_trip : ByteArray := prog_14_method_57_code
def yX12_trip : MethodName := ⟨RX12, "trip", "(III)I"⟩
abbrev cX12_helps : ByteArray := prog_14_method_58_code
def yX12_helps : MethodName := ⟨RX12, "helps", "(I)Z"⟩
abbrev cX12_many : ByteArray := prog_14_method_59_code
def yX12_many : MethodName := ⟨RX12, "many", "(I)I"⟩
abbrev cX12_lights : ByteArray := prog_14_method_60_code
def yX12_lights : MethodName := ⟨RX12, "lights", "()I"⟩
abbrev cX12_rule : ByteArray := prog_14_method_61_code
def yX12_rule : MethodName := ⟨RX12, "rule", "(III)I"⟩
abbrev cX12_isUnder : ByteArray := prog_14_method_62_code
def yX12_isUnder : MethodName := ⟨RX12, "isUnder", "(II)Z"⟩
abbrev cX12_tells : ByteArray := prog_14_method_63_code
def yX12_tells : MethodName := ⟨RX12, "tells", "(IIIZZ)I"⟩
abbrev cX12_gives : ByteArray := prog_14_method_64_code
def yX12_gives : MethodName := ⟨RX12, "gives", "(IIIZZ)I"⟩
abbrev cX12_image : ByteArray := prog_14_method_65_code
def yX12_image : MethodName := ⟨RX12, "image", "()I"⟩
abbrev cX12_lay : ByteArray := prog_14_method_66_code
def yX12_lay : MethodName := ⟨RX12, "lay", "()V"⟩
abbrev cX12_back : ByteArray := prog_14_method_67_code
def yX12_back : MethodName := ⟨RX12, "back", "()I"⟩
abbrev cX12_count : ByteArray := prog_14_method_68_code
def yX12_count : MethodName := ⟨RX12, "count", "(I)I"⟩
abbrev cX12_ran : ByteArray := prog_14_method_69_code
def yX12_ran : MethodName := ⟨RX12, "ran", "(I)V"⟩
abbrev cX12_bear10 : ByteArray := prog_14_method_70_code
def yX12_bear10 : MethodName := ⟨RX12, "bear10", "(II)I"⟩
abbrev cX12_bear20 : ByteArray := prog_14_method_71_code
def yX12_bear20 : MethodName := ⟨RX12, "bear20", "(II)I"⟩
abbrev cX12_bearOf : ByteArray := prog_14_method_72_code
def yX12_bearOf : MethodName := ⟨RX12, "bearOf", "(II)I"⟩
abbrev cX12_bar12 : ByteArray := prog_14_method_73_code
def yX12_bar12 : MethodName := ⟨RX12, "bar12", "(II)I"⟩
abbrev cX12_barOf : ByteArray := prog_14_method_74_code
def yX12_barOf : MethodName := ⟨RX12, "barOf", "(II)I"⟩
abbrev cX12_move11 : ByteArray := prog_14_method_75_code
def yX12_move11 : MethodName := ⟨RX12, "move11", "(II)I"⟩
abbrev cX12_moveOf : ByteArray := prog_14_method_76_code
def yX12_moveOf : MethodName := ⟨RX12, "moveOf", "(II)I"⟩
abbrev cX12_tell13 : ByteArray := prog_14_method_77_code
def yX12_tell13 : MethodName := ⟨RX12, "tell13", "(II)I"⟩
abbrev cX12_tellOf : ByteArray := prog_14_method_78_code
def yX12_tellOf : MethodName := ⟨RX12, "tellOf", "(II)I"⟩
abbrev cX12_act : ByteArray := prog_14_method_79_code
def yX12_act : MethodName := ⟨RX12, "act", "(III)I"⟩
abbrev cX12_trace : ByteArray := prog_14_method_80_code
def yX12_trace : MethodName := ⟨RX12, "trace", "(I)I"⟩
abbrev cX12_sheet : ByteArray := prog_14_method_81_code
def yX12_sheet : MethodName := ⟨RX12, "sheet", "(III)I"⟩
abbrev cX12_cell : ByteArray := prog_14_method_82_code
def yX12_cell : MethodName := ⟨RX12, "cell", "(III)I"⟩
abbrev cX12_none : ByteArray := prog_14_method_83_code
def yX12_none : MethodName := ⟨RX12, "none", "(II)I"⟩
abbrev cX12_gauges : ByteArray := prog_14_method_84_code
def yX12_gauges : MethodName := ⟨RX12, "gauges", "(IIII)I"⟩
abbrev cX12_modulo : ByteArray := prog_14_method_85_code
def yX12_modulo : MethodName := ⟨RX12, "modulo", "(II)I"⟩
abbrev cX12_copied : ByteArray := prog_14_method_86_code
def yX12_copied : MethodName := ⟨RX12, "copied", "(II)I"⟩
abbrev cX12_shorts : ByteArray := prog_14_method_87_code
def yX12_shorts : MethodName := ⟨RX12, "shorts", "(II)I"⟩
abbrev cX12_forge : ByteArray := prog_14_method_88_code
def yX12_forge : MethodName := ⟨RX12, "forge", "(III)I"⟩
abbrev cX12_status : ByteArray := prog_14_method_89_code
def yX12_status : MethodName := ⟨RX12, "status", "()I"⟩
def RJ6 : String := "java/lang/Integer"
def RJ9 : String := "java/lang/Math"
def RJ10 : String := "java/lang/System"
def RJ7 : String := "java/util/Arrays"
def RL : String := "RiverSteamersLaw"
abbrev cL_law : ByteArray := code
def yL_law : MethodName := ⟨RL, "law", "([I)Z"⟩
def cl_ : List vw_C := [(RX0, TX0, 2), (RX1, TX1, 5), (RX2, TX2, 10), (RX3, TX3, 2), (RX4, TX4, 16), (RX5, TX5, 4), (RX6, TX6, 3), (RX7, TX7, 6), (RX8, TX8, 3), (RX9, TX9, 5), (RX10, TX10, 2), (RX11, TX11, 8), (RX12, TX12, 64)]
def isRt : List (List Nat) := [[1], [], [9], [1], [8, 9, 10, 11, 12, 13, 14, 15], [], [2], [5], [], [2, 3, 4], [0, 1], [0, 1, 4, 5, 6, 7], [3, 4, 5, 6, 7, 8, 9, 10, 11, 13, 14, 15, 16, 17, 18, 19, 20, 21, 22, 23, 25, 26, 27, 28, 29, 32, 33, 34, 36, 37, 38, 39, 40, 41, 42, 46, 47, 48, 49, 50, 51, 52, 53, 54, 55, 56, 57, 58, 60, 61, 62, 63]]
set_option maxRecDepth 20000 in
theorem inX0 : ∀ w ∈ u_ws RX0 TX0 2, w ∈ lw_tbl := sub_p [421, 423] (by decide +kernel)
set_option maxRecDepth 20000 in
theorem inX1 : ∀ w ∈ u_ws RX1 TX1 5, w ∈ lw_tbl := sub_p [297, 299, 301, 303, 305] (by decide +kernel)
set_option maxRecDepth 20000 in
theorem inX2 : ∀ w ∈ u_ws RX2 TX2 10, w ∈ lw_tbl := sub_p [259, 261, 263, 265, 267, 269, 271, 273, 275, 277] (by decide +kernel)
set_option maxRecDepth 20000 in
theorem inX3 : ∀ w ∈ u_ws RX3 TX3 2, w ∈ lw_tbl := sub_p [222, 224] (by decide +kernel)
set_option maxRecDepth 20000 in
theorem inX4 : ∀ w ∈ u_ws RX4 TX4 16, w ∈ lw_tbl := sub_p [376, 378, 380, 382, 384, 386, 388, 390, 392, 394, 396, 398, 400, 402, 404, 406] (by decide +kernel)
set_option maxRecDepth 20000 in
theorem inX5 : ∀ w ∈ u_ws RX5 TX5 4, w ∈ lw_tbl := sub_p [335, 337, 339, 341] (by decide +kernel)
set_option maxRecDepth 20000 in
theorem inX6 : ∀ w ∈ u_ws RX6 TX6 3, w ∈ lw_tbl := sub_p [458, 460, 462] (by decide +kernel)
set_option maxRecDepth 20000 in
theorem inX7 : ∀ w ∈ u_ws RX7 TX7 6, w ∈ lw_tbl := sub_p [181, 183, 185, 187, 189, 191] (by decide +kernel)
set_option maxRecDepth 20000 in
theorem inX8 : ∀ w ∈ u_ws RX8 TX8 3, w ∈ lw_tbl := sub_p [317, 319, 321] (by decide +kernel)
set_option maxRecDepth 20000 in
theorem inX9 : ∀ w ∈ u_ws RX9 TX9 5, w ∈ lw_tbl := sub_p [437, 439, 441, 443, 445] (by decide +kernel)
set_option maxRecDepth 20000 in
theorem inX10 : ∀ w ∈ u_ws RX10 TX10 2, w ∈ lw_tbl := sub_p [211, 213] (by decide +kernel)
set_option maxRecDepth 20000 in
theorem inX11 : ∀ w ∈ u_ws RX11 TX11 8, w ∈ lw_tbl := sub_p [473, 475, 477, 479, 481, 483, 485, 487] (by decide +kernel)
set_option maxRecDepth 20000 in
theorem inX12 : ∀ w ∈ u_ws RX12 TX12 64, w ∈ lw_tbl := sub_p [1081, 1083, 1085, 1087, 1089, 1091, 1093, 1095, 1097, 1099, 1101, 1103, 1105, 1107, 1109, 1111, 1113, 1115, 1117, 1119, 1121, 1123, 1125, 1127, 1129, 1131, 1133, 1135, 1137, 1139, 1141, 1143, 1145, 1147, 1149, 1151, 1153, 1155, 1157, 1159, 1161, 1163, 1165, 1167, 1169, 1171, 1173, 1175, 1177, 1179, 1181, 1183, 1185, 1187, 1189, 1191, 1193, 1195, 1197, 1199, 1201, 1203, 1205, 1207] (by decide +kernel)
abbrev MI : Type := MethodName × ByteArray × Nat × Option FieldType
abbrev mX0_init : MI := (yX0_init, cX0_init, 1, none)
abbrev mX0_begin : MI := (yX0_begin, cX0_begin, 4, (some .int))
abbrev mX0_kindWithBody : MI := (yX0_kindWithBody, cX0_kindWithBody, 4, (some .int))
abbrev mX0_note : MI := (yX0_note, cX0_note, 2, none)
abbrev mX0_run : MI := (yX0_run, cX0_run, 9, (some .int))
abbrev mX1_init : MI := (yX1_init, cX1_init, 1, none)
abbrev mX1_begin : MI := (yX1_begin, cX1_begin, 5, none)
abbrev mX1_copyFrom : MI := (yX1_copyFrom, cX1_copyFrom, 2, none)
abbrev mX2_init : MI := (yX2_init, cX2_init, 1, none)
abbrev mX2_begin : MI := (yX2_begin, cX2_begin, 5, none)
abbrev mX2_copyFrom : MI := (yX2_copyFrom, cX2_copyFrom, 2, none)
abbrev mX2_isUnderWay : MI := (yX2_isUnderWay, cX2_isUnderWay, 1, (some .boolean))
abbrev mX2_stretchToward : MI := (yX2_stretchToward, cX2_stretchToward, 2, (some .int))
abbrev mX2_draught : MI := (yX2_draught, cX2_draught, 1, (some .int))
abbrev mX2_draughtWith : MI := (yX2_draughtWith, cX2_draughtWith, 2, (some .int))
abbrev mX2_canTake : MI := (yX2_canTake, cX2_canTake, 3, (some .boolean))
abbrev mX3_init : MI := (yX3_init, cX3_init, 1, none)
abbrev mX3_copyFrom : MI := (yX3_copyFrom, cX3_copyFrom, 2, none)
abbrev mX4_init : MI := (yX4_init, cX4_init, 2, none)
abbrev mX4_copyFrom : MI := (yX4_copyFrom, cX4_copyFrom, 2, none)
abbrev mX4_copyThings : MI := (yX4_copyThings, cX4_copyThings, 3, none)
abbrev mX4_isStretch : MI := (yX4_isStretch, cX4_isStretch, 2, (some .boolean))
abbrev mX4_isLanding : MI := (yX4_isLanding, cX4_isLanding, 2, (some .boolean))
abbrev mX4_isBoat : MI := (yX4_isBoat, cX4_isBoat, 2, (some .boolean))
abbrev mX4_isBale : MI := (yX4_isBale, cX4_isBale, 2, (some .boolean))
abbrev mX4_isWay : MI := (yX4_isWay, cX4_isWay, 3, (some .boolean))
abbrev mX4_today : MI := (yX4_today, cX4_today, 1, (some .int))
abbrev mX4_isNight : MI := (yX4_isNight, cX4_isNight, 1, (some .boolean))
abbrev mX4_tellHeight : MI := (yX4_tellHeight, cX4_tellHeight, 3, none)
abbrev mX4_heightOn : MI := (yX4_heightOn, cX4_heightOn, 5, (some .int))
abbrev mX4_waterOn : MI := (yX4_waterOn, cX4_waterOn, 4, (some .int))
abbrev mX4_longNow : MI := (yX4_longNow, cX4_longNow, 3, (some .int))
abbrev mX4_longByDaylight : MI := (yX4_longByDaylight, cX4_longByDaylight, 3, (some .int))
abbrev mX4_whyNot : MI := (yX4_whyNot, cX4_whyNot, 4, (some .int))
abbrev mX4_setOut : MI := (yX4_setOut, cX4_setOut, 6, (some .int))
abbrev mX4_goOneQuarter : MI := (yX4_goOneQuarter, cX4_goOneQuarter, 3, none)
abbrev mX4_comeTo : MI := (yX4_comeTo, cX4_comeTo, 3, none)
abbrev mX4_carrierOf : MI := (yX4_carrierOf, cX4_carrierOf, 2, (some (.object "RiverSteamers$Boat")))
abbrev mX4_boatsAground : MI := (yX4_boatsAground, cX4_boatsAground, 3, (some .int))
abbrev mX4_darkCrossings : MI := (yX4_darkCrossings, cX4_darkCrossings, 4, (some .int))
abbrev mX4_tripsBear : MI := (yX4_tripsBear, cX4_tripsBear, 3, (some .boolean))
abbrev mX5_init : MI := (yX5_init, cX5_init, 1, none)
abbrev mX5_begin : MI := (yX5_begin, cX5_begin, 5, none)
abbrev mX5_copyFrom : MI := (yX5_copyFrom, cX5_copyFrom, 2, none)
abbrev mX5_isInForce : MI := (yX5_isInForce, cX5_isInForce, 2, (some .boolean))
abbrev mX6_init : MI := (yX6_init, cX6_init, 1, none)
abbrev mX6_begin : MI := (yX6_begin, cX6_begin, 3, none)
abbrev mX6_isMissing : MI := (yX6_isMissing, cX6_isMissing, 1, (some .boolean))
abbrev mX6_hasPlace : MI := (yX6_hasPlace, cX6_hasPlace, 2, (some .boolean))
abbrev mX6_faultAs : MI := (yX6_faultAs, cX6_faultAs, 2, (some .int))
abbrev mX6_put : MI := (yX6_put, cX6_put, 3, none)
abbrev mX7_init : MI := (yX7_init, cX7_init, 1, none)
abbrev mX7_begin : MI := (yX7_begin, cX7_begin, 5, none)
abbrev mX7_copyFrom : MI := (yX7_copyFrom, cX7_copyFrom, 2, none)
abbrev mX7_shiftOn : MI := (yX7_shiftOn, cX7_shiftOn, 3, (some .int))
abbrev mX8_init : MI := (yX8_init, cX8_init, 1, none)
abbrev mX8_begin : MI := (yX8_begin, cX8_begin, 4, none)
abbrev mX8_copyFrom : MI := (yX8_copyFrom, cX8_copyFrom, 2, none)
abbrev mX8_wayBits : MI := (yX8_wayBits, cX8_wayBits, 1, (some .int))
abbrev mX9_init : MI := (yX9_init, cX9_init, 1, none)
abbrev mX9_workOut : MI := (yX9_workOut, cX9_workOut, 8, none)
abbrev mX9_workOutStep : MI := (yX9_workOutStep, cX9_workOutStep, 7, none)
abbrev mX9_costOnward : MI := (yX9_costOnward, cX9_costOnward, 4, (some .int))
abbrev mX9_leastCost : MI := (yX9_leastCost, cX9_leastCost, 1, (some .int))
abbrev mX9_cordsAt : MI := (yX9_cordsAt, cX9_cordsAt, 4, (some .int))
abbrev mX9_cordsFrom : MI := (yX9_cordsFrom, cX9_cordsFrom, 6, (some .int))
abbrev mX10_init : MI := (yX10_init, cX10_init, 1, none)
abbrev mX10_forgetAll : MI := (yX10_forgetAll, cX10_forgetAll, 1, none)
abbrev mX10_copyFrom : MI := (yX10_copyFrom, cX10_copyFrom, 2, none)
abbrev mX10_isKnown : MI := (yX10_isKnown, cX10_isKnown, 2, (some .boolean))
abbrev mX10_learn : MI := (yX10_learn, cX10_learn, 4, none)
abbrev mX10_exchange : MI := (yX10_exchange, cX10_exchange, 3, none)
abbrev mX10_toldOf : MI := (yX10_toldOf, cX10_toldOf, 3, (some .int))
abbrev mX11_init : MI := (yX11_init, cX11_init, 2, none)
abbrev mX11_stretch : MI := (yX11_stretch, cX11_stretch, 5, (some .int))
abbrev mX11_gauge : MI := (yX11_gauge, cX11_gauge, 3, (some .int))
abbrev mX11_shift : MI := (yX11_shift, cX11_shift, 5, (some .int))
abbrev mX11_cold : MI := (yX11_cold, cX11_cold, 4, (some .int))
abbrev mX11_light : MI := (yX11_light, cX11_light, 5, (some .int))
abbrev mX11_boat : MI := (yX11_boat, cX11_boat, 6, (some .int))
abbrev mX11_bale : MI := (yX11_bale, cX11_bale, 6, (some .int))
abbrev mX11_lade : MI := (yX11_lade, cX11_lade, 6, (some .int))
abbrev mX11_land : MI := (yX11_land, cX11_land, 4, (some .int))
abbrev mX11_lose : MI := (yX11_lose, cX11_lose, 4, (some .int))
abbrev mX11_leave : MI := (yX11_leave, cX11_leave, 5, (some .int))
abbrev mX11_off : MI := (yX11_off, cX11_off, 3, (some .int))
abbrev mX11_go : MI := (yX11_go, cX11_go, 3, (some .int))
abbrev mX11_yard : MI := (yX11_yard, cX11_yard, 5, (some .int))
abbrev mX11_wood : MI := (yX11_wood, cX11_wood, 5, (some .int))
abbrev mX11_trip : MI := (yX11_trip, cX11_trip, 5, (some .int))
abbrev mX11_rule : MI := (yX11_rule, cX11_rule, 6, (some .int))
abbrev mX11_image : MI := (yX11_image, cX11_image, 1, (some .int))
abbrev mX11_back : MI := (yX11_back, cX11_back, 1, (some .int))
abbrev mX11_height : MI := (yX11_height, cX11_height, 2, (some .int))
abbrev mX11_stretchTold : MI := (yX11_stretchTold, cX11_stretchTold, 4, (some .int))
abbrev mX11_water : MI := (yX11_water, cX11_water, 3, (some .int))
abbrev mX11_boatTold : MI := (yX11_boatTold, cX11_boatTold, 4, (some .int))
abbrev mX11_baleTold : MI := (yX11_baleTold, cX11_baleTold, 4, (some .int))
abbrev mX11_why : MI := (yX11_why, cX11_why, 3, (some .int))
abbrev mX11_knows : MI := (yX11_knows, cX11_knows, 4, (some .int))
abbrev mX11_box : MI := (yX11_box, cX11_box, 4, (some .int))
abbrev mX11_lading : MI := (yX11_lading, cX11_lading, 4, (some .int))
abbrev mX11_wooding : MI := (yX11_wooding, cX11_wooding, 4, (some .int))
abbrev mX11_bought : MI := (yX11_bought, cX11_bought, 5, (some .int))
abbrev mX11_lights : MI := (yX11_lights, cX11_lights, 5, (some .int))
abbrev mX11_gives : MI := (yX11_gives, cX11_gives, 10, (some .int))
abbrev mX11_count : MI := (yX11_count, cX11_count, 2, (some .int))
abbrev mX11_act : MI := (yX11_act, cX11_act, 4, (some .int))
abbrev mX11_trace : MI := (yX11_trace, cX11_trace, 2, (some .int))
abbrev mX11_sheet : MI := (yX11_sheet, cX11_sheet, 6, (some .int))
abbrev mX11_cell : MI := (yX11_cell, cX11_cell, 5, (some .int))
abbrev mX11_none : MI := (yX11_none, cX11_none, 5, (some .int))
abbrev mX11_gauges : MI := (yX11_gauges, cX11_gauges, 9, (some .int))
abbrev mX11_forge : MI := (yX11_forge, cX11_forge, 4, (some .int))
abbrev mX11_status : MI := (yX11_status, cX11_status, 1, (some .int))
abbrev mX11_done : MI := (yX11_done, cX11_done, 2, (some .int))
abbrev mX11_refused : MI := (yX11_refused, cX11_refused, 2, (some .int))
abbrev mX11_isWithin : MI := (yX11_isWithin, cX11_isWithin, 3, (some .boolean))
abbrev mX11_isDay : MI := (yX11_isDay, cX11_isDay, 1, (some .boolean))
abbrev mX11_isSheet : MI := (yX11_isSheet, cX11_isSheet, 1, (some .boolean))
abbrev mX11_isUnder : MI := (yX11_isUnder, cX11_isUnder, 4, (some .boolean))
abbrev mX11_listBalesAt : MI := (yX11_listBalesAt, cX11_listBalesAt, 5, (some .int))
abbrev mX11_bestSet : MI := (yX11_bestSet, cX11_bestSet, 15, (some .int))
abbrev mX11_yieldingBy : MI := (yX11_yieldingBy, cX11_yieldingBy, 8, (some .int))
abbrev mX11_tellFromFloat : MI := (yX11_tellFromFloat, cX11_tellFromFloat, 4, none)
abbrev mX11_forgeKind : MI := (yX11_forgeKind, cX11_forgeKind, 4, (some .int))
abbrev mX11_forgeShort : MI := (yX11_forgeShort, cX11_forgeShort, 4, (some .int))
abbrev mX11_forgeCopy : MI := (yX11_forgeCopy, cX11_forgeCopy, 6, (some .int))
abbrev mX11_forgeRow : MI := (yX11_forgeRow, cX11_forgeRow, 3, (some .int))
abbrev mX12_init : MI := (yX12_init, cX12_init, 2, none)
abbrev mX12_in : MI := (yX12_in, cX12_in, 3, (some .boolean))
abbrev mX12_refused : MI := (yX12_refused, cX12_refused, 2, (some .int))
abbrev mX12_done : MI := (yX12_done, cX12_done, 2, (some .int))
abbrev mX12_isStretch : MI := (yX12_isStretch, cX12_isStretch, 2, (some .boolean))
abbrev mX12_isLanding : MI := (yX12_isLanding, cX12_isLanding, 2, (some .boolean))
abbrev mX12_isBoat : MI := (yX12_isBoat, cX12_isBoat, 2, (some .boolean))
abbrev mX12_isBale : MI := (yX12_isBale, cX12_isBale, 2, (some .boolean))
abbrev mX12_isDay : MI := (yX12_isDay, cX12_isDay, 1, (some .boolean))
abbrev mX12_today : MI := (yX12_today, cX12_today, 1, (some .int))
abbrev mX12_isNight : MI := (yX12_isNight, cX12_isNight, 1, (some .boolean))
abbrev mX12_stretch : MI := (yX12_stretch, cX12_stretch, 6, (some .int))
abbrev mX12_told : MI := (yX12_told, cX12_told, 3, (some .int))
abbrev mX12_gauge : MI := (yX12_gauge, cX12_gauge, 3, (some .int))
abbrev mX12_isBar : MI := (yX12_isBar, cX12_isBar, 2, (some .boolean))
abbrev mX12_shift : MI := (yX12_shift, cX12_shift, 4, (some .int))
abbrev mX12_cold : MI := (yX12_cold, cX12_cold, 4, (some .int))
abbrev mX12_light : MI := (yX12_light, cX12_light, 4, (some .int))
abbrev mX12_heightOf : MI := (yX12_heightOf, cX12_heightOf, 4, (some .int))
abbrev mX12_height : MI := (yX12_height, cX12_height, 2, (some .int))
abbrev mX12_shiftOf : MI := (yX12_shiftOf, cX12_shiftOf, 4, (some .int))
abbrev mX12_waterOf : MI := (yX12_waterOf, cX12_waterOf, 3, (some .int))
abbrev mX12_water : MI := (yX12_water, cX12_water, 3, (some .int))
abbrev mX12_longOf : MI := (yX12_longOf, cX12_longOf, 4, (some .int))
abbrev mX12_stretchTold : MI := (yX12_stretchTold, cX12_stretchTold, 3, (some .int))
abbrev mX12_boat : MI := (yX12_boat, cX12_boat, 6, (some .int))
abbrev mX12_aboard : MI := (yX12_aboard, cX12_aboard, 4, (some .int))
abbrev mX12_draught : MI := (yX12_draught, cX12_draught, 2, (some .int))
abbrev mX12_bale : MI := (yX12_bale, cX12_bale, 5, (some .int))
abbrev mX12_lade : MI := (yX12_lade, cX12_lade, 3, (some .int))
abbrev mX12_land : MI := (yX12_land, cX12_land, 3, (some .int))
abbrev mX12_lose : MI := (yX12_lose, cX12_lose, 2, (some .int))
abbrev mX12_hears : MI := (yX12_hears, cX12_hears, 3, none)
abbrev mX12_comes : MI := (yX12_comes, cX12_comes, 6, none)
abbrev mX12_ahead : MI := (yX12_ahead, cX12_ahead, 4, (some .int))
abbrev mX12_whyNot : MI := (yX12_whyNot, cX12_whyNot, 5, (some .int))
abbrev mX12_why : MI := (yX12_why, cX12_why, 3, (some .int))
abbrev mX12_leave : MI := (yX12_leave, cX12_leave, 7, (some .int))
abbrev mX12_off : MI := (yX12_off, cX12_off, 2, (some .int))
abbrev mX12_go : MI := (yX12_go, cX12_go, 4, (some .int))
abbrev mX12_knows : MI := (yX12_knows, cX12_knows, 4, (some .int))
abbrev mX12_box : MI := (yX12_box, cX12_box, 4, (some .int))
abbrev mX12_word : MI := (yX12_word, cX12_word, 3, (some .int))
abbrev mX12_boatTold : MI := (yX12_boatTold, cX12_boatTold, 3, (some .int))
abbrev mX12_baleTold : MI := (yX12_baleTold, cX12_baleTold, 3, (some .int))
abbrev mX12_sumOf : MI := (yX12_sumOf, cX12_sumOf, 5, (some .int))
abbrev mX12_lading : MI := (yX12_lading, cX12_lading, 9, (some .int))
abbrev mX12_yard : MI := (yX12_yard, cX12_yard, 4, (some .int))
abbrev mX12_wood : MI := (yX12_wood, cX12_wood, 3, (some .int))
abbrev mX12_landingOf : MI := (yX12_landingOf, cX12_landingOf, 3, (some .int))
abbrev mX12_stretchOf : MI := (yX12_stretchOf, cX12_stretchOf, 3, (some .int))
abbrev mX12_buysAt : MI := (yX12_buysAt, cX12_buysAt, 12, none)
abbrev mX12_findWood : MI := (yX12_findWood, cX12_findWood, 6, (some .int))
abbrev mX12_wooding : MI := (yX12_wooding, cX12_wooding, 5, (some .int))
abbrev mX12_bought : MI := (yX12_bought, cX12_bought, 5, (some .int))
abbrev mX12_trip : MI := (yX12_trip, cX12_trip, 4, (some .int))
abbrev mX12_helps : MI := (yX12_helps, cX12_helps, 7, (some .boolean))
abbrev mX12_many : MI := (yX12_many, cX12_many, 3, (some .int))
abbrev mX12_lights : MI := (yX12_lights, cX12_lights, 4, (some .int))
abbrev mX12_rule : MI := (yX12_rule, cX12_rule, 4, (some .int))
abbrev mX12_isUnder : MI := (yX12_isUnder, cX12_isUnder, 2, (some .boolean))
abbrev mX12_tells : MI := (yX12_tells, cX12_tells, 7, (some .int))
abbrev mX12_gives : MI := (yX12_gives, cX12_gives, 8, (some .int))
abbrev mX12_image : MI := (yX12_image, cX12_image, 2, (some .int))
abbrev mX12_lay : MI := (yX12_lay, cX12_lay, 2, none)
abbrev mX12_back : MI := (yX12_back, cX12_back, 1, (some .int))
abbrev mX12_count : MI := (yX12_count, cX12_count, 4, (some .int))
abbrev mX12_ran : MI := (yX12_ran, cX12_ran, 2, none)
abbrev mX12_bear10 : MI := (yX12_bear10, cX12_bear10, 3, (some .int))
abbrev mX12_bear20 : MI := (yX12_bear20, cX12_bear20, 3, (some .int))
abbrev mX12_bearOf : MI := (yX12_bearOf, cX12_bearOf, 3, (some .int))
abbrev mX12_bar12 : MI := (yX12_bar12, cX12_bar12, 3, (some .int))
abbrev mX12_barOf : MI := (yX12_barOf, cX12_barOf, 3, (some .int))
abbrev mX12_move11 : MI := (yX12_move11, cX12_move11, 3, (some .int))
abbrev mX12_moveOf : MI := (yX12_moveOf, cX12_moveOf, 4, (some .int))
abbrev mX12_tell13 : MI := (yX12_tell13, cX12_tell13, 4, (some .int))
abbrev mX12_tellOf : MI := (yX12_tellOf, cX12_tellOf, 4, (some .int))
abbrev mX12_act : MI := (yX12_act, cX12_act, 4, (some .int))
abbrev mX12_trace : MI := (yX12_trace, cX12_trace, 2, (some .int))
abbrev mX12_sheet : MI := (yX12_sheet, cX12_sheet, 5, (some .int))
abbrev mX12_cell : MI := (yX12_cell, cX12_cell, 4, (some .int))
abbrev mX12_none : MI := (yX12_none, cX12_none, 3, (some .int))
abbrev mX12_gauges : MI := (yX12_gauges, cX12_gauges, 8, (some .int))
abbrev mX12_modulo : MI := (yX12_modulo, cX12_modulo, 2, (some .int))
abbrev mX12_copied : MI := (yX12_copied, cX12_copied, 5, (some .int))
abbrev mX12_shorts : MI := (yX12_shorts, cX12_shorts, 3, (some .int))
abbrev mX12_forge : MI := (yX12_forge, cX12_forge, 5, (some .int))
abbrev mX12_status : MI := (yX12_status, cX12_status, 1, (some .int))
abbrev mL_law : MI := (yL_law, cL_law, 4, ret)
end
section
def yJ_fill : MethodName := ⟨"java/util/Arrays", "fill", "([II)V"⟩
abbrev cJ_fill : ByteArray := prog_18_method_103_code
abbrev mJ_fill : MI := (yJ_fill, cJ_fill, 4, none)
def yJ_abs : MethodName := ⟨"java/lang/Math", "abs", "(I)I"⟩
abbrev cJ_abs : ByteArray := prog_16_method_59_code
abbrev mJ_abs : MI := (yJ_abs, cJ_abs, 1, (some .int))
def yJ_min : MethodName := ⟨"java/lang/Math", "min", "(II)I"⟩
abbrev cJ_min : ByteArray := prog_16_method_69_code
abbrev mJ_min : MI := (yJ_min, cJ_min, 2, (some .int))
def yJ_max : MethodName := ⟨"java/lang/Math", "max", "(II)I"⟩
abbrev cJ_max : ByteArray := prog_16_method_65_code
abbrev mJ_max : MI := (yJ_max, cJ_max, 2, (some .int))
def yJ_floorMod : MethodName := ⟨"java/lang/Math", "floorMod", "(II)I"⟩
abbrev cJ_floorMod : ByteArray := prog_16_method_50_code
abbrev mJ_floorMod : MI := (yJ_floorMod, cJ_floorMod, 3, (some .int))
def yJ_bitCount : MethodName := ⟨"java/lang/Integer", "bitCount", "(I)I"⟩
abbrev cJ_bitCount : ByteArray := prog_15_method_49_code
abbrev mJ_bitCount : MI := (yJ_bitCount, cJ_bitCount, 1, (some .int))
theorem d_X0_init_0 : decode cX0_init 0 = .ok (.aload_n 0, 1) := by decide +kernel
theorem d_X0_init_1 : decode cX0_init 1 = .ok (.invokespecial 3, 3) := by decide +kernel
theorem d_X0_init_4 : decode cX0_init 4 = .ok (.aload_n 0, 1) := by decide +kernel
theorem d_X0_init_5 : decode cX0_init 5 = .ok (.iconst 0, 1) := by decide +kernel
theorem d_X0_init_6 : decode cX0_init 6 = .ok (.putfield 9, 3) := by decide +kernel
theorem d_X0_init_9 : decode cX0_init 9 = .ok (.aload_n 0, 1) := by decide +kernel
theorem d_X0_init_10 : decode cX0_init 10 = .ok (.bipush 50, 2) := by decide +kernel
theorem d_X0_init_12 : decode cX0_init 12 = .ok (.newarray .int, 2) := by decide +kernel
theorem d_X0_init_14 : decode cX0_init 14 = .ok (.putfield 15, 3) := by decide +kernel
theorem d_X0_init_17 : decode cX0_init 17 = .ok (.return_, 1) := by decide +kernel
theorem d_X0_begin_0 : decode cX0_begin 0 = .ok (.aload_n 0, 1) := by decide +kernel
theorem d_X0_begin_1 : decode cX0_begin 1 = .ok (.iconst 0, 1) := by decide +kernel
theorem d_X0_begin_2 : decode cX0_begin 2 = .ok (.putfield 9, 3) := by decide +kernel
theorem d_X0_begin_5 : decode cX0_begin 5 = .ok (.aload_n 0, 1) := by decide +kernel
theorem d_X0_begin_6 : decode cX0_begin 6 = .ok (.aload_n 1, 1) := by decide +kernel
theorem d_X0_begin_7 : decode cX0_begin 7 = .ok (.aload_n 1, 1) := by decide +kernel
theorem d_X0_begin_8 : decode cX0_begin 8 = .ok (.getfield 19, 3) := by decide +kernel
theorem d_X0_begin_11 : decode cX0_begin 11 = .ok (.iload_n 2, 1) := by decide +kernel
theorem d_X0_begin_12 : decode cX0_begin 12 = .ok (.iload_n 3, 1) := by decide +kernel
theorem d_X0_begin_13 : decode cX0_begin 13 = .ok (.iconst 0, 1) := by decide +kernel
theorem d_X0_begin_14 : decode cX0_begin 14 = .ok (.invokevirtual 24, 3) := by decide +kernel
theorem d_X0_begin_17 : decode cX0_begin 17 = .ok (.ireturn, 1) := by decide +kernel
theorem d_X0_kindWithBody_0 : decode cX0_kindWithBody 0 = .ok (.iload_n 0, 1) := by decide +kernel
theorem d_X0_kindWithBody_1 : decode cX0_kindWithBody 1 = .ok (.istore_n 2, 1) := by decide +kernel
theorem d_X0_kindWithBody_2 : decode cX0_kindWithBody 2 = .ok (.iconst 0, 1) := by decide +kernel
theorem d_X0_kindWithBody_3 : decode cX0_kindWithBody 3 = .ok (.istore_n 3, 1) := by decide +kernel
theorem d_X0_kindWithBody_4 : decode cX0_kindWithBody 4 = .ok (.iload_n 3, 1) := by decide +kernel
theorem d_X0_kindWithBody_5 : decode cX0_kindWithBody 5 = .ok (.bipush 6, 2) := by decide +kernel
theorem d_X0_kindWithBody_7 : decode cX0_kindWithBody 7 = .ok (.if_icmp .ge 32, 3) := by decide +kernel
theorem d_X0_kindWithBody_10 : decode cX0_kindWithBody 10 = .ok (.iload_n 2, 1) := by decide +kernel
theorem d_X0_kindWithBody_11 : decode cX0_kindWithBody 11 = .ok (.iconst (-1), 1) := by decide +kernel
theorem d_X0_kindWithBody_12 : decode cX0_kindWithBody 12 = .ok (.if_icmp .eq 27, 3) := by decide +kernel
theorem d_X0_kindWithBody_15 : decode cX0_kindWithBody 15 = .ok (.getstatic 28, 3) := by decide +kernel
theorem d_X0_kindWithBody_18 : decode cX0_kindWithBody 18 = .ok (.iload_n 2, 1) := by decide +kernel
theorem d_X0_kindWithBody_19 : decode cX0_kindWithBody 19 = .ok (.iconst 4, 1) := by decide +kernel
theorem d_X0_kindWithBody_20 : decode cX0_kindWithBody 20 = .ok (.imul, 1) := by decide +kernel
theorem d_X0_kindWithBody_21 : decode cX0_kindWithBody 21 = .ok (.iload_n 1, 1) := by decide +kernel
theorem d_X0_kindWithBody_22 : decode cX0_kindWithBody 22 = .ok (.iadd, 1) := by decide +kernel
theorem d_X0_kindWithBody_23 : decode cX0_kindWithBody 23 = .ok (.iaload, 1) := by decide +kernel
theorem d_X0_kindWithBody_24 : decode cX0_kindWithBody 24 = .ok (.ifCond .ne 15, 3) := by decide +kernel
theorem d_X0_kindWithBody_27 : decode cX0_kindWithBody 27 = .ok (.getstatic 31, 3) := by decide +kernel
theorem d_X0_kindWithBody_30 : decode cX0_kindWithBody 30 = .ok (.iload_n 2, 1) := by decide +kernel
theorem d_X0_kindWithBody_31 : decode cX0_kindWithBody 31 = .ok (.iaload, 1) := by decide +kernel
theorem d_X0_kindWithBody_32 : decode cX0_kindWithBody 32 = .ok (.istore_n 2, 1) := by decide +kernel
theorem d_X0_kindWithBody_33 : decode cX0_kindWithBody 33 = .ok (.iinc 3 1, 3) := by decide +kernel
theorem d_X0_kindWithBody_36 : decode cX0_kindWithBody 36 = .ok (.goto (-32), 3) := by decide +kernel
theorem d_X0_kindWithBody_39 : decode cX0_kindWithBody 39 = .ok (.iload_n 2, 1) := by decide +kernel
theorem d_X0_kindWithBody_40 : decode cX0_kindWithBody 40 = .ok (.ireturn, 1) := by decide +kernel
theorem d_X0_note_0 : decode cX0_note 0 = .ok (.aload_n 0, 1) := by decide +kernel
theorem d_X0_note_1 : decode cX0_note 1 = .ok (.getfield 9, 3) := by decide +kernel
theorem d_X0_note_4 : decode cX0_note 4 = .ok (.bipush 50, 2) := by decide +kernel
theorem d_X0_note_6 : decode cX0_note 6 = .ok (.if_icmp .ge 23, 3) := by decide +kernel
theorem d_X0_note_9 : decode cX0_note 9 = .ok (.aload_n 0, 1) := by decide +kernel
theorem d_X0_note_10 : decode cX0_note 10 = .ok (.getfield 15, 3) := by decide +kernel
theorem d_X0_note_13 : decode cX0_note 13 = .ok (.aload_n 0, 1) := by decide +kernel
theorem d_X0_note_14 : decode cX0_note 14 = .ok (.getfield 9, 3) := by decide +kernel
theorem d_X0_note_17 : decode cX0_note 17 = .ok (.iload_n 1, 1) := by decide +kernel
theorem d_X0_note_18 : decode cX0_note 18 = .ok (.iastore, 1) := by decide +kernel
theorem d_X0_note_19 : decode cX0_note 19 = .ok (.aload_n 0, 1) := by decide +kernel
theorem d_X0_note_20 : decode cX0_note 20 = .ok (.dup, 1) := by decide +kernel
theorem d_X0_note_21 : decode cX0_note 21 = .ok (.getfield 9, 3) := by decide +kernel
theorem d_X0_note_24 : decode cX0_note 24 = .ok (.iconst 1, 1) := by decide +kernel
theorem d_X0_note_25 : decode cX0_note 25 = .ok (.iadd, 1) := by decide +kernel
theorem d_X0_note_26 : decode cX0_note 26 = .ok (.putfield 9, 3) := by decide +kernel
theorem d_X0_note_29 : decode cX0_note 29 = .ok (.return_, 1) := by decide +kernel
theorem d_X0_run_0 : decode cX0_run 0 = .ok (.iload_n 2, 1) := by decide +kernel
theorem d_X0_run_1 : decode cX0_run 1 = .ok (.iload_n 3, 1) := by decide +kernel
theorem d_X0_run_2 : decode cX0_run 2 = .ok (.invokestatic 34, 3) := by decide +kernel
theorem d_X0_run_5 : decode cX0_run 5 = .ok (.istore 6, 2) := by decide +kernel
theorem d_X0_run_7 : decode cX0_run 7 = .ok (.iload 6, 2) := by decide +kernel
theorem d_X0_run_9 : decode cX0_run 9 = .ok (.iconst (-1), 1) := by decide +kernel
theorem d_X0_run_10 : decode cX0_run 10 = .ok (.if_icmp .eq 10, 3) := by decide +kernel
theorem d_X0_run_13 : decode cX0_run 13 = .ok (.iload 5, 2) := by decide +kernel
theorem d_X0_run_15 : decode cX0_run 15 = .ok (.bipush 24, 2) := by decide +kernel
theorem d_X0_run_17 : decode cX0_run 17 = .ok (.if_icmp .le 5, 3) := by decide +kernel
theorem d_X0_run_20 : decode cX0_run 20 = .ok (.iconst 0, 1) := by decide +kernel
theorem d_X0_run_21 : decode cX0_run 21 = .ok (.ireturn, 1) := by decide +kernel
theorem d_X0_run_22 : decode cX0_run 22 = .ok (.getstatic 28, 3) := by decide +kernel
theorem d_X0_run_25 : decode cX0_run 25 = .ok (.iload 6, 2) := by decide +kernel
theorem d_X0_run_27 : decode cX0_run 27 = .ok (.iconst 4, 1) := by decide +kernel
theorem d_X0_run_28 : decode cX0_run 28 = .ok (.imul, 1) := by decide +kernel
theorem d_X0_run_29 : decode cX0_run 29 = .ok (.iload_n 3, 1) := by decide +kernel
theorem d_X0_run_30 : decode cX0_run 30 = .ok (.iadd, 1) := by decide +kernel
theorem d_X0_run_31 : decode cX0_run 31 = .ok (.iaload, 1) := by decide +kernel
theorem d_X0_run_32 : decode cX0_run 32 = .ok (.istore 7, 2) := by decide +kernel
theorem d_X0_run_34 : decode cX0_run 34 = .ok (.getstatic 31, 3) := by decide +kernel
theorem d_X0_run_37 : decode cX0_run 37 = .ok (.iload 6, 2) := by decide +kernel
theorem d_X0_run_39 : decode cX0_run 39 = .ok (.iaload, 1) := by decide +kernel
theorem d_X0_run_40 : decode cX0_run 40 = .ok (.istore 8, 2) := by decide +kernel
theorem d_X0_run_42 : decode cX0_run 42 = .ok (.aload_n 0, 1) := by decide +kernel
theorem d_X0_run_43 : decode cX0_run 43 = .ok (.iload 7, 2) := by decide +kernel
theorem d_X0_run_45 : decode cX0_run 45 = .ok (.invokevirtual 38, 3) := by decide +kernel
theorem d_X0_run_48 : decode cX0_run 48 = .ok (.iload 7, 2) := by decide +kernel
theorem d_X0_run_50 : decode cX0_run 50 = .ok (.lookupswitch 355 #[(10, 106), (11, 114), (12, 133), (13, 141), (20, 175), (21, 195), (30, 212), (40, 246), (41, 263), (50, 283), (51, 303), (60, 323)], 106) := by decide +kernel
theorem d_X0_run_156 : decode cX0_run 156 = .ok (.iload 4, 2) := by decide +kernel
theorem d_X0_run_158 : decode cX0_run 158 = .ok (.aload_n 1, 1) := by decide +kernel
theorem d_X0_run_159 : decode cX0_run 159 = .ok (.getfield 42, 3) := by decide +kernel
theorem d_X0_run_162 : decode cX0_run 162 = .ok (.iadd, 1) := by decide +kernel
theorem d_X0_run_163 : decode cX0_run 163 = .ok (.ireturn, 1) := by decide +kernel
theorem d_X0_run_164 : decode cX0_run 164 = .ok (.aload_n 0, 1) := by decide +kernel
theorem d_X0_run_165 : decode cX0_run 165 = .ok (.aload_n 1, 1) := by decide +kernel
theorem d_X0_run_166 : decode cX0_run 166 = .ok (.aload_n 1, 1) := by decide +kernel
theorem d_X0_run_167 : decode cX0_run 167 = .ok (.getfield 19, 3) := by decide +kernel
theorem d_X0_run_170 : decode cX0_run 170 = .ok (.iconst 0, 1) := by decide +kernel
theorem d_X0_run_171 : decode cX0_run 171 = .ok (.iload 4, 2) := by decide +kernel
theorem d_X0_run_173 : decode cX0_run 173 = .ok (.iload 5, 2) := by decide +kernel
theorem d_X0_run_175 : decode cX0_run 175 = .ok (.iconst 1, 1) := by decide +kernel
theorem d_X0_run_176 : decode cX0_run 176 = .ok (.iadd, 1) := by decide +kernel
theorem d_X0_run_177 : decode cX0_run 177 = .ok (.invokevirtual 24, 3) := by decide +kernel
theorem d_X0_run_180 : decode cX0_run 180 = .ok (.iconst 2, 1) := by decide +kernel
theorem d_X0_run_181 : decode cX0_run 181 = .ok (.imul, 1) := by decide +kernel
theorem d_X0_run_182 : decode cX0_run 182 = .ok (.ireturn, 1) := by decide +kernel
theorem d_X0_run_183 : decode cX0_run 183 = .ok (.iload 4, 2) := by decide +kernel
theorem d_X0_run_185 : decode cX0_run 185 = .ok (.aload_n 1, 1) := by decide +kernel
theorem d_X0_run_186 : decode cX0_run 186 = .ok (.getfield 45, 3) := by decide +kernel
theorem d_X0_run_189 : decode cX0_run 189 = .ok (.isub, 1) := by decide +kernel
theorem d_X0_run_190 : decode cX0_run 190 = .ok (.ireturn, 1) := by decide +kernel
theorem d_X0_run_191 : decode cX0_run 191 = .ok (.aload_n 0, 1) := by decide +kernel
theorem d_X0_run_192 : decode cX0_run 192 = .ok (.aload_n 1, 1) := by decide +kernel
theorem d_X0_run_193 : decode cX0_run 193 = .ok (.aload_n 1, 1) := by decide +kernel
theorem d_X0_run_194 : decode cX0_run 194 = .ok (.getfield 19, 3) := by decide +kernel
theorem d_X0_run_197 : decode cX0_run 197 = .ok (.iconst 1, 1) := by decide +kernel
theorem d_X0_run_198 : decode cX0_run 198 = .ok (.iload 4, 2) := by decide +kernel
theorem d_X0_run_200 : decode cX0_run 200 = .ok (.iload 5, 2) := by decide +kernel
theorem d_X0_run_202 : decode cX0_run 202 = .ok (.iconst 1, 1) := by decide +kernel
theorem d_X0_run_203 : decode cX0_run 203 = .ok (.iadd, 1) := by decide +kernel
theorem d_X0_run_204 : decode cX0_run 204 = .ok (.invokevirtual 24, 3) := by decide +kernel
theorem d_X0_run_207 : decode cX0_run 207 = .ok (.aload_n 0, 1) := by decide +kernel
theorem d_X0_run_208 : decode cX0_run 208 = .ok (.aload_n 1, 1) := by decide +kernel
theorem d_X0_run_209 : decode cX0_run 209 = .ok (.aload_n 1, 1) := by decide +kernel
theorem d_X0_run_210 : decode cX0_run 210 = .ok (.getfield 19, 3) := by decide +kernel
theorem d_X0_run_213 : decode cX0_run 213 = .ok (.iconst 2, 1) := by decide +kernel
theorem d_X0_run_214 : decode cX0_run 214 = .ok (.iload 4, 2) := by decide +kernel
theorem d_X0_run_216 : decode cX0_run 216 = .ok (.iload 5, 2) := by decide +kernel
theorem d_X0_run_218 : decode cX0_run 218 = .ok (.iconst 1, 1) := by decide +kernel
theorem d_X0_run_219 : decode cX0_run 219 = .ok (.iadd, 1) := by decide +kernel
theorem d_X0_run_220 : decode cX0_run 220 = .ok (.invokevirtual 24, 3) := by decide +kernel
theorem d_X0_run_223 : decode cX0_run 223 = .ok (.ixor, 1) := by decide +kernel
theorem d_X0_run_224 : decode cX0_run 224 = .ok (.ireturn, 1) := by decide +kernel
theorem d_X0_run_225 : decode cX0_run 225 = .ok (.aload_n 0, 1) := by decide +kernel
theorem d_X0_run_226 : decode cX0_run 226 = .ok (.aload_n 1, 1) := by decide +kernel
theorem d_X0_run_227 : decode cX0_run 227 = .ok (.iload 8, 2) := by decide +kernel
theorem d_X0_run_229 : decode cX0_run 229 = .ok (.iconst 0, 1) := by decide +kernel
theorem d_X0_run_230 : decode cX0_run 230 = .ok (.iload 4, 2) := by decide +kernel
theorem d_X0_run_232 : decode cX0_run 232 = .ok (.iload 5, 2) := by decide +kernel
theorem d_X0_run_234 : decode cX0_run 234 = .ok (.iconst 1, 1) := by decide +kernel
theorem d_X0_run_235 : decode cX0_run 235 = .ok (.iadd, 1) := by decide +kernel
theorem d_X0_run_236 : decode cX0_run 236 = .ok (.invokevirtual 24, 3) := by decide +kernel
theorem d_X0_run_239 : decode cX0_run 239 = .ok (.aload_n 1, 1) := by decide +kernel
theorem d_X0_run_240 : decode cX0_run 240 = .ok (.getfield 48, 3) := by decide +kernel
theorem d_X0_run_243 : decode cX0_run 243 = .ok (.isub, 1) := by decide +kernel
theorem d_X0_run_244 : decode cX0_run 244 = .ok (.ireturn, 1) := by decide +kernel
theorem d_X0_run_245 : decode cX0_run 245 = .ok (.aload_n 0, 1) := by decide +kernel
theorem d_X0_run_246 : decode cX0_run 246 = .ok (.aload_n 1, 1) := by decide +kernel
theorem d_X0_run_247 : decode cX0_run 247 = .ok (.iload 8, 2) := by decide +kernel
theorem d_X0_run_249 : decode cX0_run 249 = .ok (.iconst 3, 1) := by decide +kernel
theorem d_X0_run_250 : decode cX0_run 250 = .ok (.iload 4, 2) := by decide +kernel
theorem d_X0_run_252 : decode cX0_run 252 = .ok (.iconst 1, 1) := by decide +kernel
theorem d_X0_run_253 : decode cX0_run 253 = .ok (.iadd, 1) := by decide +kernel
theorem d_X0_run_254 : decode cX0_run 254 = .ok (.iload 5, 2) := by decide +kernel
theorem d_X0_run_256 : decode cX0_run 256 = .ok (.iconst 1, 1) := by decide +kernel
theorem d_X0_run_257 : decode cX0_run 257 = .ok (.iadd, 1) := by decide +kernel
theorem d_X0_run_258 : decode cX0_run 258 = .ok (.invokevirtual 24, 3) := by decide +kernel
theorem d_X0_run_261 : decode cX0_run 261 = .ok (.ireturn, 1) := by decide +kernel
theorem d_X0_run_262 : decode cX0_run 262 = .ok (.aload_n 0, 1) := by decide +kernel
theorem d_X0_run_263 : decode cX0_run 263 = .ok (.aload_n 1, 1) := by decide +kernel
theorem d_X0_run_264 : decode cX0_run 264 = .ok (.iload 8, 2) := by decide +kernel
theorem d_X0_run_266 : decode cX0_run 266 = .ok (.iconst 1, 1) := by decide +kernel
theorem d_X0_run_267 : decode cX0_run 267 = .ok (.iload 4, 2) := by decide +kernel
theorem d_X0_run_269 : decode cX0_run 269 = .ok (.iload 5, 2) := by decide +kernel
theorem d_X0_run_271 : decode cX0_run 271 = .ok (.iconst 1, 1) := by decide +kernel
theorem d_X0_run_272 : decode cX0_run 272 = .ok (.iadd, 1) := by decide +kernel
theorem d_X0_run_273 : decode cX0_run 273 = .ok (.invokevirtual 24, 3) := by decide +kernel
theorem d_X0_run_276 : decode cX0_run 276 = .ok (.aload_n 0, 1) := by decide +kernel
theorem d_X0_run_277 : decode cX0_run 277 = .ok (.aload_n 1, 1) := by decide +kernel
theorem d_X0_run_278 : decode cX0_run 278 = .ok (.aload_n 1, 1) := by decide +kernel
theorem d_X0_run_279 : decode cX0_run 279 = .ok (.getfield 19, 3) := by decide +kernel
theorem d_X0_run_282 : decode cX0_run 282 = .ok (.iconst 2, 1) := by decide +kernel
theorem d_X0_run_283 : decode cX0_run 283 = .ok (.aload_n 1, 1) := by decide +kernel
theorem d_X0_run_284 : decode cX0_run 284 = .ok (.getfield 48, 3) := by decide +kernel
theorem d_X0_run_287 : decode cX0_run 287 = .ok (.iload 5, 2) := by decide +kernel
theorem d_X0_run_289 : decode cX0_run 289 = .ok (.iconst 1, 1) := by decide +kernel
theorem d_X0_run_290 : decode cX0_run 290 = .ok (.iadd, 1) := by decide +kernel
theorem d_X0_run_291 : decode cX0_run 291 = .ok (.invokevirtual 24, 3) := by decide +kernel
theorem d_X0_run_294 : decode cX0_run 294 = .ok (.iadd, 1) := by decide +kernel
theorem d_X0_run_295 : decode cX0_run 295 = .ok (.ireturn, 1) := by decide +kernel
theorem d_X0_run_296 : decode cX0_run 296 = .ok (.aload_n 0, 1) := by decide +kernel
theorem d_X0_run_297 : decode cX0_run 297 = .ok (.aload_n 1, 1) := by decide +kernel
theorem d_X0_run_298 : decode cX0_run 298 = .ok (.iload 8, 2) := by decide +kernel
theorem d_X0_run_300 : decode cX0_run 300 = .ok (.iconst 2, 1) := by decide +kernel
theorem d_X0_run_301 : decode cX0_run 301 = .ok (.iload 4, 2) := by decide +kernel
theorem d_X0_run_303 : decode cX0_run 303 = .ok (.iload 5, 2) := by decide +kernel
theorem d_X0_run_305 : decode cX0_run 305 = .ok (.iconst 1, 1) := by decide +kernel
theorem d_X0_run_306 : decode cX0_run 306 = .ok (.iadd, 1) := by decide +kernel
theorem d_X0_run_307 : decode cX0_run 307 = .ok (.invokevirtual 24, 3) := by decide +kernel
theorem d_X0_run_310 : decode cX0_run 310 = .ok (.iconst 3, 1) := by decide +kernel
theorem d_X0_run_311 : decode cX0_run 311 = .ok (.imul, 1) := by decide +kernel
theorem d_X0_run_312 : decode cX0_run 312 = .ok (.ireturn, 1) := by decide +kernel
theorem d_X0_run_313 : decode cX0_run 313 = .ok (.aload_n 0, 1) := by decide +kernel
theorem d_X0_run_314 : decode cX0_run 314 = .ok (.aload_n 1, 1) := by decide +kernel
theorem d_X0_run_315 : decode cX0_run 315 = .ok (.iload 8, 2) := by decide +kernel
theorem d_X0_run_317 : decode cX0_run 317 = .ok (.iconst 0, 1) := by decide +kernel
theorem d_X0_run_318 : decode cX0_run 318 = .ok (.iload 4, 2) := by decide +kernel
theorem d_X0_run_320 : decode cX0_run 320 = .ok (.aload_n 1, 1) := by decide +kernel
theorem d_X0_run_321 : decode cX0_run 321 = .ok (.getfield 45, 3) := by decide +kernel
theorem d_X0_run_324 : decode cX0_run 324 = .ok (.iadd, 1) := by decide +kernel
theorem d_X0_run_325 : decode cX0_run 325 = .ok (.iload 5, 2) := by decide +kernel
theorem d_X0_run_327 : decode cX0_run 327 = .ok (.iconst 1, 1) := by decide +kernel
theorem d_X0_run_328 : decode cX0_run 328 = .ok (.iadd, 1) := by decide +kernel
theorem d_X0_run_329 : decode cX0_run 329 = .ok (.invokevirtual 24, 3) := by decide +kernel
theorem d_X0_run_332 : decode cX0_run 332 = .ok (.ireturn, 1) := by decide +kernel
theorem d_X0_run_333 : decode cX0_run 333 = .ok (.aload_n 0, 1) := by decide +kernel
theorem d_X0_run_334 : decode cX0_run 334 = .ok (.aload_n 1, 1) := by decide +kernel
theorem d_X0_run_335 : decode cX0_run 335 = .ok (.iload 8, 2) := by decide +kernel
theorem d_X0_run_337 : decode cX0_run 337 = .ok (.iconst 1, 1) := by decide +kernel
theorem d_X0_run_338 : decode cX0_run 338 = .ok (.iload 4, 2) := by decide +kernel
theorem d_X0_run_340 : decode cX0_run 340 = .ok (.iload 5, 2) := by decide +kernel
theorem d_X0_run_342 : decode cX0_run 342 = .ok (.iconst 1, 1) := by decide +kernel
theorem d_X0_run_343 : decode cX0_run 343 = .ok (.iadd, 1) := by decide +kernel
theorem d_X0_run_344 : decode cX0_run 344 = .ok (.invokevirtual 24, 3) := by decide +kernel
theorem d_X0_run_347 : decode cX0_run 347 = .ok (.aload_n 1, 1) := by decide +kernel
theorem d_X0_run_348 : decode cX0_run 348 = .ok (.getfield 42, 3) := by decide +kernel
theorem d_X0_run_351 : decode cX0_run 351 = .ok (.ixor, 1) := by decide +kernel
theorem d_X0_run_352 : decode cX0_run 352 = .ok (.ireturn, 1) := by decide +kernel
theorem d_X0_run_353 : decode cX0_run 353 = .ok (.aload_n 0, 1) := by decide +kernel
theorem d_X0_run_354 : decode cX0_run 354 = .ok (.aload_n 1, 1) := by decide +kernel
theorem d_X0_run_355 : decode cX0_run 355 = .ok (.iload 8, 2) := by decide +kernel
theorem d_X0_run_357 : decode cX0_run 357 = .ok (.iconst 2, 1) := by decide +kernel
theorem d_X0_run_358 : decode cX0_run 358 = .ok (.iload 4, 2) := by decide +kernel
theorem d_X0_run_360 : decode cX0_run 360 = .ok (.aload_n 1, 1) := by decide +kernel
theorem d_X0_run_361 : decode cX0_run 361 = .ok (.getfield 48, 3) := by decide +kernel
theorem d_X0_run_364 : decode cX0_run 364 = .ok (.iadd, 1) := by decide +kernel
theorem d_X0_run_365 : decode cX0_run 365 = .ok (.iload 5, 2) := by decide +kernel
theorem d_X0_run_367 : decode cX0_run 367 = .ok (.iconst 1, 1) := by decide +kernel
theorem d_X0_run_368 : decode cX0_run 368 = .ok (.iadd, 1) := by decide +kernel
theorem d_X0_run_369 : decode cX0_run 369 = .ok (.invokevirtual 24, 3) := by decide +kernel
theorem d_X0_run_372 : decode cX0_run 372 = .ok (.ireturn, 1) := by decide +kernel
theorem d_X0_run_373 : decode cX0_run 373 = .ok (.aload_n 0, 1) := by decide +kernel
theorem d_X0_run_374 : decode cX0_run 374 = .ok (.aload_n 1, 1) := by decide +kernel
theorem d_X0_run_375 : decode cX0_run 375 = .ok (.aload_n 1, 1) := by decide +kernel
theorem d_X0_run_376 : decode cX0_run 376 = .ok (.getfield 19, 3) := by decide +kernel
theorem d_X0_run_379 : decode cX0_run 379 = .ok (.iconst 2, 1) := by decide +kernel
theorem d_X0_run_380 : decode cX0_run 380 = .ok (.iload 4, 2) := by decide +kernel
theorem d_X0_run_382 : decode cX0_run 382 = .ok (.iload 5, 2) := by decide +kernel
theorem d_X0_run_384 : decode cX0_run 384 = .ok (.iconst 1, 1) := by decide +kernel
theorem d_X0_run_385 : decode cX0_run 385 = .ok (.iadd, 1) := by decide +kernel
theorem d_X0_run_386 : decode cX0_run 386 = .ok (.invokevirtual 24, 3) := by decide +kernel
theorem d_X0_run_389 : decode cX0_run 389 = .ok (.aload_n 0, 1) := by decide +kernel
theorem d_X0_run_390 : decode cX0_run 390 = .ok (.aload_n 1, 1) := by decide +kernel
theorem d_X0_run_391 : decode cX0_run 391 = .ok (.iload 8, 2) := by decide +kernel
theorem d_X0_run_393 : decode cX0_run 393 = .ok (.iconst 3, 1) := by decide +kernel
theorem d_X0_run_394 : decode cX0_run 394 = .ok (.iload 4, 2) := by decide +kernel
theorem d_X0_run_396 : decode cX0_run 396 = .ok (.iload 5, 2) := by decide +kernel
theorem d_X0_run_398 : decode cX0_run 398 = .ok (.iconst 1, 1) := by decide +kernel
theorem d_X0_run_399 : decode cX0_run 399 = .ok (.iadd, 1) := by decide +kernel
theorem d_X0_run_400 : decode cX0_run 400 = .ok (.invokevirtual 24, 3) := by decide +kernel
theorem d_X0_run_403 : decode cX0_run 403 = .ok (.isub, 1) := by decide +kernel
theorem d_X0_run_404 : decode cX0_run 404 = .ok (.ireturn, 1) := by decide +kernel
theorem d_X0_run_405 : decode cX0_run 405 = .ok (.iconst 0, 1) := by decide +kernel
theorem d_X0_run_406 : decode cX0_run 406 = .ok (.ireturn, 1) := by decide +kernel
theorem d_X1_init_0 : decode cX1_init 0 = .ok (.aload_n 0, 1) := by decide +kernel
theorem d_X1_init_1 : decode cX1_init 1 = .ok (.invokespecial 3, 3) := by decide +kernel
theorem d_X1_init_4 : decode cX1_init 4 = .ok (.aload_n 0, 1) := by decide +kernel
theorem d_X1_init_5 : decode cX1_init 5 = .ok (.iconst 0, 1) := by decide +kernel
theorem d_X1_init_6 : decode cX1_init 6 = .ok (.putfield 9, 3) := by decide +kernel
theorem d_X1_init_9 : decode cX1_init 9 = .ok (.aload_n 0, 1) := by decide +kernel
theorem d_X1_init_10 : decode cX1_init 10 = .ok (.iconst 0, 1) := by decide +kernel
theorem d_X1_init_11 : decode cX1_init 11 = .ok (.putfield 15, 3) := by decide +kernel
theorem d_X1_init_14 : decode cX1_init 14 = .ok (.aload_n 0, 1) := by decide +kernel
theorem d_X1_init_15 : decode cX1_init 15 = .ok (.iconst 0, 1) := by decide +kernel
theorem d_X1_init_16 : decode cX1_init 16 = .ok (.putfield 18, 3) := by decide +kernel
theorem d_X1_init_19 : decode cX1_init 19 = .ok (.aload_n 0, 1) := by decide +kernel
theorem d_X1_init_20 : decode cX1_init 20 = .ok (.iconst 0, 1) := by decide +kernel
theorem d_X1_init_21 : decode cX1_init 21 = .ok (.putfield 21, 3) := by decide +kernel
theorem d_X1_init_24 : decode cX1_init 24 = .ok (.aload_n 0, 1) := by decide +kernel
theorem d_X1_init_25 : decode cX1_init 25 = .ok (.iconst 0, 1) := by decide +kernel
theorem d_X1_init_26 : decode cX1_init 26 = .ok (.putfield 24, 3) := by decide +kernel
theorem d_X1_init_29 : decode cX1_init 29 = .ok (.return_, 1) := by decide +kernel
theorem d_X1_begin_0 : decode cX1_begin 0 = .ok (.aload_n 0, 1) := by decide +kernel
theorem d_X1_begin_1 : decode cX1_begin 1 = .ok (.iload_n 2, 1) := by decide +kernel
theorem d_X1_begin_2 : decode cX1_begin 2 = .ok (.putfield 9, 3) := by decide +kernel
theorem d_X1_begin_5 : decode cX1_begin 5 = .ok (.aload_n 0, 1) := by decide +kernel
theorem d_X1_begin_6 : decode cX1_begin 6 = .ok (.iload_n 3, 1) := by decide +kernel
theorem d_X1_begin_7 : decode cX1_begin 7 = .ok (.putfield 15, 3) := by decide +kernel
theorem d_X1_begin_10 : decode cX1_begin 10 = .ok (.aload_n 0, 1) := by decide +kernel
theorem d_X1_begin_11 : decode cX1_begin 11 = .ok (.iload 4, 2) := by decide +kernel
theorem d_X1_begin_13 : decode cX1_begin 13 = .ok (.putfield 18, 3) := by decide +kernel
theorem d_X1_begin_16 : decode cX1_begin 16 = .ok (.aload_n 0, 1) := by decide +kernel
theorem d_X1_begin_17 : decode cX1_begin 17 = .ok (.iconst 0, 1) := by decide +kernel
theorem d_X1_begin_18 : decode cX1_begin 18 = .ok (.putfield 21, 3) := by decide +kernel
theorem d_X1_begin_21 : decode cX1_begin 21 = .ok (.aload_n 0, 1) := by decide +kernel
theorem d_X1_begin_22 : decode cX1_begin 22 = .ok (.iload_n 1, 1) := by decide +kernel
theorem d_X1_begin_23 : decode cX1_begin 23 = .ok (.putfield 24, 3) := by decide +kernel
theorem d_X1_begin_26 : decode cX1_begin 26 = .ok (.return_, 1) := by decide +kernel
theorem d_X1_copyFrom_0 : decode cX1_copyFrom 0 = .ok (.aload_n 0, 1) := by decide +kernel
theorem d_X1_copyFrom_1 : decode cX1_copyFrom 1 = .ok (.aload_n 1, 1) := by decide +kernel
theorem d_X1_copyFrom_2 : decode cX1_copyFrom 2 = .ok (.getfield 9, 3) := by decide +kernel
theorem d_X1_copyFrom_5 : decode cX1_copyFrom 5 = .ok (.putfield 9, 3) := by decide +kernel
theorem d_X1_copyFrom_8 : decode cX1_copyFrom 8 = .ok (.aload_n 0, 1) := by decide +kernel
theorem d_X1_copyFrom_9 : decode cX1_copyFrom 9 = .ok (.aload_n 1, 1) := by decide +kernel
theorem d_X1_copyFrom_10 : decode cX1_copyFrom 10 = .ok (.getfield 15, 3) := by decide +kernel
theorem d_X1_copyFrom_13 : decode cX1_copyFrom 13 = .ok (.putfield 15, 3) := by decide +kernel
theorem d_X1_copyFrom_16 : decode cX1_copyFrom 16 = .ok (.aload_n 0, 1) := by decide +kernel
theorem d_X1_copyFrom_17 : decode cX1_copyFrom 17 = .ok (.aload_n 1, 1) := by decide +kernel
theorem d_X1_copyFrom_18 : decode cX1_copyFrom 18 = .ok (.getfield 18, 3) := by decide +kernel
theorem d_X1_copyFrom_21 : decode cX1_copyFrom 21 = .ok (.putfield 18, 3) := by decide +kernel
theorem d_X1_copyFrom_24 : decode cX1_copyFrom 24 = .ok (.aload_n 0, 1) := by decide +kernel
theorem d_X1_copyFrom_25 : decode cX1_copyFrom 25 = .ok (.aload_n 1, 1) := by decide +kernel
theorem d_X1_copyFrom_26 : decode cX1_copyFrom 26 = .ok (.getfield 21, 3) := by decide +kernel
theorem d_X1_copyFrom_29 : decode cX1_copyFrom 29 = .ok (.putfield 21, 3) := by decide +kernel
theorem d_X1_copyFrom_32 : decode cX1_copyFrom 32 = .ok (.aload_n 0, 1) := by decide +kernel
theorem d_X1_copyFrom_33 : decode cX1_copyFrom 33 = .ok (.aload_n 1, 1) := by decide +kernel
theorem d_X1_copyFrom_34 : decode cX1_copyFrom 34 = .ok (.getfield 24, 3) := by decide +kernel
theorem d_X1_copyFrom_37 : decode cX1_copyFrom 37 = .ok (.putfield 24, 3) := by decide +kernel
theorem d_X1_copyFrom_40 : decode cX1_copyFrom 40 = .ok (.return_, 1) := by decide +kernel
theorem d_X2_init_0 : decode cX2_init 0 = .ok (.aload_n 0, 1) := by decide +kernel
theorem d_X2_init_1 : decode cX2_init 1 = .ok (.invokespecial 3, 3) := by decide +kernel
theorem d_X2_init_4 : decode cX2_init 4 = .ok (.aload_n 0, 1) := by decide +kernel
theorem d_X2_init_5 : decode cX2_init 5 = .ok (.iconst 0, 1) := by decide +kernel
theorem d_X2_init_6 : decode cX2_init 6 = .ok (.putfield 9, 3) := by decide +kernel
theorem d_X2_init_9 : decode cX2_init 9 = .ok (.aload_n 0, 1) := by decide +kernel
theorem d_X2_init_10 : decode cX2_init 10 = .ok (.iconst 0, 1) := by decide +kernel
theorem d_X2_init_11 : decode cX2_init 11 = .ok (.putfield 15, 3) := by decide +kernel
theorem d_X2_init_14 : decode cX2_init 14 = .ok (.aload_n 0, 1) := by decide +kernel
theorem d_X2_init_15 : decode cX2_init 15 = .ok (.iconst 0, 1) := by decide +kernel
theorem d_X2_init_16 : decode cX2_init 16 = .ok (.putfield 18, 3) := by decide +kernel
theorem d_X2_init_19 : decode cX2_init 19 = .ok (.aload_n 0, 1) := by decide +kernel
theorem d_X2_init_20 : decode cX2_init 20 = .ok (.iconst 0, 1) := by decide +kernel
theorem d_X2_init_21 : decode cX2_init 21 = .ok (.putfield 21, 3) := by decide +kernel
theorem d_X2_init_24 : decode cX2_init 24 = .ok (.aload_n 0, 1) := by decide +kernel
theorem d_X2_init_25 : decode cX2_init 25 = .ok (.iconst 0, 1) := by decide +kernel
theorem d_X2_init_26 : decode cX2_init 26 = .ok (.putfield 24, 3) := by decide +kernel
theorem d_X2_init_29 : decode cX2_init 29 = .ok (.aload_n 0, 1) := by decide +kernel
theorem d_X2_init_30 : decode cX2_init 30 = .ok (.iconst 0, 1) := by decide +kernel
theorem d_X2_init_31 : decode cX2_init 31 = .ok (.putfield 27, 3) := by decide +kernel
theorem d_X2_init_34 : decode cX2_init 34 = .ok (.aload_n 0, 1) := by decide +kernel
theorem d_X2_init_35 : decode cX2_init 35 = .ok (.iconst 0, 1) := by decide +kernel
theorem d_X2_init_36 : decode cX2_init 36 = .ok (.putfield 30, 3) := by decide +kernel
theorem d_X2_init_39 : decode cX2_init 39 = .ok (.aload_n 0, 1) := by decide +kernel
theorem d_X2_init_40 : decode cX2_init 40 = .ok (.iconst 0, 1) := by decide +kernel
theorem d_X2_init_41 : decode cX2_init 41 = .ok (.putfield 33, 3) := by decide +kernel
theorem d_X2_init_44 : decode cX2_init 44 = .ok (.aload_n 0, 1) := by decide +kernel
theorem d_X2_init_45 : decode cX2_init 45 = .ok (.iconst 0, 1) := by decide +kernel
theorem d_X2_init_46 : decode cX2_init 46 = .ok (.putfield 36, 3) := by decide +kernel
theorem d_X2_init_49 : decode cX2_init 49 = .ok (.aload_n 0, 1) := by decide +kernel
theorem d_X2_init_50 : decode cX2_init 50 = .ok (.new 39, 3) := by decide +kernel
theorem d_X2_init_53 : decode cX2_init 53 = .ok (.dup, 1) := by decide +kernel
theorem d_X2_init_54 : decode cX2_init 54 = .ok (.invokespecial 41, 3) := by decide +kernel
theorem d_X2_init_57 : decode cX2_init 57 = .ok (.putfield 42, 3) := by decide +kernel
theorem d_X2_init_60 : decode cX2_init 60 = .ok (.return_, 1) := by decide +kernel
theorem d_X2_begin_0 : decode cX2_begin 0 = .ok (.aload_n 0, 1) := by decide +kernel
theorem d_X2_begin_1 : decode cX2_begin 1 = .ok (.iload_n 2, 1) := by decide +kernel
theorem d_X2_begin_2 : decode cX2_begin 2 = .ok (.putfield 9, 3) := by decide +kernel
theorem d_X2_begin_5 : decode cX2_begin 5 = .ok (.aload_n 0, 1) := by decide +kernel
theorem d_X2_begin_6 : decode cX2_begin 6 = .ok (.iload_n 3, 1) := by decide +kernel
theorem d_X2_begin_7 : decode cX2_begin 7 = .ok (.putfield 15, 3) := by decide +kernel
theorem d_X2_begin_10 : decode cX2_begin 10 = .ok (.aload_n 0, 1) := by decide +kernel
theorem d_X2_begin_11 : decode cX2_begin 11 = .ok (.iload 4, 2) := by decide +kernel
theorem d_X2_begin_13 : decode cX2_begin 13 = .ok (.putfield 18, 3) := by decide +kernel
theorem d_X2_begin_16 : decode cX2_begin 16 = .ok (.aload_n 0, 1) := by decide +kernel
theorem d_X2_begin_17 : decode cX2_begin 17 = .ok (.iload 4, 2) := by decide +kernel
theorem d_X2_begin_19 : decode cX2_begin 19 = .ok (.putfield 21, 3) := by decide +kernel
theorem d_X2_begin_22 : decode cX2_begin 22 = .ok (.aload_n 0, 1) := by decide +kernel
theorem d_X2_begin_23 : decode cX2_begin 23 = .ok (.iconst 0, 1) := by decide +kernel
theorem d_X2_begin_24 : decode cX2_begin 24 = .ok (.putfield 24, 3) := by decide +kernel
theorem d_X2_begin_27 : decode cX2_begin 27 = .ok (.aload_n 0, 1) := by decide +kernel
theorem d_X2_begin_28 : decode cX2_begin 28 = .ok (.iconst 0, 1) := by decide +kernel
theorem d_X2_begin_29 : decode cX2_begin 29 = .ok (.putfield 27, 3) := by decide +kernel
theorem d_X2_begin_32 : decode cX2_begin 32 = .ok (.aload_n 0, 1) := by decide +kernel
theorem d_X2_begin_33 : decode cX2_begin 33 = .ok (.iload_n 1, 1) := by decide +kernel
theorem d_X2_begin_34 : decode cX2_begin 34 = .ok (.putfield 30, 3) := by decide +kernel
theorem d_X2_begin_37 : decode cX2_begin 37 = .ok (.aload_n 0, 1) := by decide +kernel
theorem d_X2_begin_38 : decode cX2_begin 38 = .ok (.getfield 42, 3) := by decide +kernel
theorem d_X2_begin_41 : decode cX2_begin 41 = .ok (.invokevirtual 46, 3) := by decide +kernel
theorem d_X2_begin_44 : decode cX2_begin 44 = .ok (.return_, 1) := by decide +kernel
theorem d_X2_copyFrom_0 : decode cX2_copyFrom 0 = .ok (.aload_n 0, 1) := by decide +kernel
theorem d_X2_copyFrom_1 : decode cX2_copyFrom 1 = .ok (.aload_n 1, 1) := by decide +kernel
theorem d_X2_copyFrom_2 : decode cX2_copyFrom 2 = .ok (.getfield 9, 3) := by decide +kernel
theorem d_X2_copyFrom_5 : decode cX2_copyFrom 5 = .ok (.putfield 9, 3) := by decide +kernel
theorem d_X2_copyFrom_8 : decode cX2_copyFrom 8 = .ok (.aload_n 0, 1) := by decide +kernel
theorem d_X2_copyFrom_9 : decode cX2_copyFrom 9 = .ok (.aload_n 1, 1) := by decide +kernel
theorem d_X2_copyFrom_10 : decode cX2_copyFrom 10 = .ok (.getfield 15, 3) := by decide +kernel
theorem d_X2_copyFrom_13 : decode cX2_copyFrom 13 = .ok (.putfield 15, 3) := by decide +kernel
theorem d_X2_copyFrom_16 : decode cX2_copyFrom 16 = .ok (.aload_n 0, 1) := by decide +kernel
theorem d_X2_copyFrom_17 : decode cX2_copyFrom 17 = .ok (.aload_n 1, 1) := by decide +kernel
theorem d_X2_copyFrom_18 : decode cX2_copyFrom 18 = .ok (.getfield 18, 3) := by decide +kernel
theorem d_X2_copyFrom_21 : decode cX2_copyFrom 21 = .ok (.putfield 18, 3) := by decide +kernel
theorem d_X2_copyFrom_24 : decode cX2_copyFrom 24 = .ok (.aload_n 0, 1) := by decide +kernel
theorem d_X2_copyFrom_25 : decode cX2_copyFrom 25 = .ok (.aload_n 1, 1) := by decide +kernel
theorem d_X2_copyFrom_26 : decode cX2_copyFrom 26 = .ok (.getfield 21, 3) := by decide +kernel
theorem d_X2_copyFrom_29 : decode cX2_copyFrom 29 = .ok (.putfield 21, 3) := by decide +kernel
theorem d_X2_copyFrom_32 : decode cX2_copyFrom 32 = .ok (.aload_n 0, 1) := by decide +kernel
theorem d_X2_copyFrom_33 : decode cX2_copyFrom 33 = .ok (.aload_n 1, 1) := by decide +kernel
theorem d_X2_copyFrom_34 : decode cX2_copyFrom 34 = .ok (.getfield 24, 3) := by decide +kernel
theorem d_X2_copyFrom_37 : decode cX2_copyFrom 37 = .ok (.putfield 24, 3) := by decide +kernel
theorem d_X2_copyFrom_40 : decode cX2_copyFrom 40 = .ok (.aload_n 0, 1) := by decide +kernel
theorem d_X2_copyFrom_41 : decode cX2_copyFrom 41 = .ok (.aload_n 1, 1) := by decide +kernel
theorem d_X2_copyFrom_42 : decode cX2_copyFrom 42 = .ok (.getfield 27, 3) := by decide +kernel
theorem d_X2_copyFrom_45 : decode cX2_copyFrom 45 = .ok (.putfield 27, 3) := by decide +kernel
theorem d_X2_copyFrom_48 : decode cX2_copyFrom 48 = .ok (.aload_n 0, 1) := by decide +kernel
theorem d_X2_copyFrom_49 : decode cX2_copyFrom 49 = .ok (.aload_n 1, 1) := by decide +kernel
theorem d_X2_copyFrom_50 : decode cX2_copyFrom 50 = .ok (.getfield 30, 3) := by decide +kernel
theorem d_X2_copyFrom_53 : decode cX2_copyFrom 53 = .ok (.putfield 30, 3) := by decide +kernel
theorem d_X2_copyFrom_56 : decode cX2_copyFrom 56 = .ok (.aload_n 0, 1) := by decide +kernel
theorem d_X2_copyFrom_57 : decode cX2_copyFrom 57 = .ok (.aload_n 1, 1) := by decide +kernel
theorem d_X2_copyFrom_58 : decode cX2_copyFrom 58 = .ok (.getfield 33, 3) := by decide +kernel
theorem d_X2_copyFrom_61 : decode cX2_copyFrom 61 = .ok (.putfield 33, 3) := by decide +kernel
theorem d_X2_copyFrom_64 : decode cX2_copyFrom 64 = .ok (.aload_n 0, 1) := by decide +kernel
theorem d_X2_copyFrom_65 : decode cX2_copyFrom 65 = .ok (.aload_n 1, 1) := by decide +kernel
theorem d_X2_copyFrom_66 : decode cX2_copyFrom 66 = .ok (.getfield 36, 3) := by decide +kernel
theorem d_X2_copyFrom_69 : decode cX2_copyFrom 69 = .ok (.putfield 36, 3) := by decide +kernel
theorem d_X2_copyFrom_72 : decode cX2_copyFrom 72 = .ok (.aload_n 0, 1) := by decide +kernel
theorem d_X2_copyFrom_73 : decode cX2_copyFrom 73 = .ok (.getfield 42, 3) := by decide +kernel
theorem d_X2_copyFrom_76 : decode cX2_copyFrom 76 = .ok (.aload_n 1, 1) := by decide +kernel
theorem d_X2_copyFrom_77 : decode cX2_copyFrom 77 = .ok (.getfield 42, 3) := by decide +kernel
theorem d_X2_copyFrom_80 : decode cX2_copyFrom 80 = .ok (.invokevirtual 49, 3) := by decide +kernel
theorem d_X2_copyFrom_83 : decode cX2_copyFrom 83 = .ok (.return_, 1) := by decide +kernel
theorem d_X2_isUnderWay_0 : decode cX2_isUnderWay 0 = .ok (.aload_n 0, 1) := by decide +kernel
theorem d_X2_isUnderWay_1 : decode cX2_isUnderWay 1 = .ok (.getfield 27, 3) := by decide +kernel
theorem d_X2_isUnderWay_4 : decode cX2_isUnderWay 4 = .ok (.iconst 1, 1) := by decide +kernel
theorem d_X2_isUnderWay_5 : decode cX2_isUnderWay 5 = .ok (.if_icmp .eq 11, 3) := by decide +kernel
theorem d_X2_isUnderWay_8 : decode cX2_isUnderWay 8 = .ok (.aload_n 0, 1) := by decide +kernel
theorem d_X2_isUnderWay_9 : decode cX2_isUnderWay 9 = .ok (.getfield 27, 3) := by decide +kernel
theorem d_X2_isUnderWay_12 : decode cX2_isUnderWay 12 = .ok (.iconst 2, 1) := by decide +kernel
theorem d_X2_isUnderWay_13 : decode cX2_isUnderWay 13 = .ok (.if_icmp .ne 7, 3) := by decide +kernel
theorem d_X2_isUnderWay_16 : decode cX2_isUnderWay 16 = .ok (.iconst 1, 1) := by decide +kernel
theorem d_X2_isUnderWay_17 : decode cX2_isUnderWay 17 = .ok (.goto 4, 3) := by decide +kernel
theorem d_X2_isUnderWay_20 : decode cX2_isUnderWay 20 = .ok (.iconst 0, 1) := by decide +kernel
theorem d_X2_isUnderWay_21 : decode cX2_isUnderWay 21 = .ok (.ireturn, 1) := by decide +kernel
theorem d_X2_stretchToward_0 : decode cX2_stretchToward 0 = .ok (.iload_n 1, 1) := by decide +kernel
theorem d_X2_stretchToward_1 : decode cX2_stretchToward 1 = .ok (.ifCond .eq 10, 3) := by decide +kernel
theorem d_X2_stretchToward_4 : decode cX2_stretchToward 4 = .ok (.aload_n 0, 1) := by decide +kernel
theorem d_X2_stretchToward_5 : decode cX2_stretchToward 5 = .ok (.getfield 30, 3) := by decide +kernel
theorem d_X2_stretchToward_8 : decode cX2_stretchToward 8 = .ok (.goto 9, 3) := by decide +kernel
theorem d_X2_stretchToward_11 : decode cX2_stretchToward 11 = .ok (.aload_n 0, 1) := by decide +kernel
theorem d_X2_stretchToward_12 : decode cX2_stretchToward 12 = .ok (.getfield 30, 3) := by decide +kernel
theorem d_X2_stretchToward_15 : decode cX2_stretchToward 15 = .ok (.iconst 1, 1) := by decide +kernel
theorem d_X2_stretchToward_16 : decode cX2_stretchToward 16 = .ok (.isub, 1) := by decide +kernel
theorem d_X2_stretchToward_17 : decode cX2_stretchToward 17 = .ok (.ireturn, 1) := by decide +kernel
theorem d_X2_draught_0 : decode cX2_draught 0 = .ok (.aload_n 0, 1) := by decide +kernel
theorem d_X2_draught_1 : decode cX2_draught 1 = .ok (.iconst 0, 1) := by decide +kernel
theorem d_X2_draught_2 : decode cX2_draught 2 = .ok (.invokevirtual 53, 3) := by decide +kernel
theorem d_X2_draught_5 : decode cX2_draught 5 = .ok (.ireturn, 1) := by decide +kernel
theorem d_X2_draughtWith_0 : decode cX2_draughtWith 0 = .ok (.aload_n 0, 1) := by decide +kernel
theorem d_X2_draughtWith_1 : decode cX2_draughtWith 1 = .ok (.getfield 9, 3) := by decide +kernel
theorem d_X2_draughtWith_4 : decode cX2_draughtWith 4 = .ok (.aload_n 0, 1) := by decide +kernel
theorem d_X2_draughtWith_5 : decode cX2_draughtWith 5 = .ok (.getfield 24, 3) := by decide +kernel
theorem d_X2_draughtWith_8 : decode cX2_draughtWith 8 = .ok (.iload_n 1, 1) := by decide +kernel
theorem d_X2_draughtWith_9 : decode cX2_draughtWith 9 = .ok (.iadd, 1) := by decide +kernel
theorem d_X2_draughtWith_10 : decode cX2_draughtWith 10 = .ok (.bipush 10, 2) := by decide +kernel
theorem d_X2_draughtWith_12 : decode cX2_draughtWith 12 = .ok (.idiv, 1) := by decide +kernel
theorem d_X2_draughtWith_13 : decode cX2_draughtWith 13 = .ok (.iadd, 1) := by decide +kernel
theorem d_X2_draughtWith_14 : decode cX2_draughtWith 14 = .ok (.ireturn, 1) := by decide +kernel
theorem d_X2_canTake_0 : decode cX2_canTake 0 = .ok (.aload_n 0, 1) := by decide +kernel
theorem d_X2_canTake_1 : decode cX2_canTake 1 = .ok (.getfield 24, 3) := by decide +kernel
theorem d_X2_canTake_4 : decode cX2_canTake 4 = .ok (.iload_n 1, 1) := by decide +kernel
theorem d_X2_canTake_5 : decode cX2_canTake 5 = .ok (.iadd, 1) := by decide +kernel
theorem d_X2_canTake_6 : decode cX2_canTake 6 = .ok (.aload_n 0, 1) := by decide +kernel
theorem d_X2_canTake_7 : decode cX2_canTake 7 = .ok (.getfield 15, 3) := by decide +kernel
theorem d_X2_canTake_10 : decode cX2_canTake 10 = .ok (.if_icmp .gt 16, 3) := by decide +kernel
theorem d_X2_canTake_13 : decode cX2_canTake 13 = .ok (.aload_n 0, 1) := by decide +kernel
theorem d_X2_canTake_14 : decode cX2_canTake 14 = .ok (.iload_n 1, 1) := by decide +kernel
theorem d_X2_canTake_15 : decode cX2_canTake 15 = .ok (.invokevirtual 53, 3) := by decide +kernel
theorem d_X2_canTake_18 : decode cX2_canTake 18 = .ok (.iload_n 2, 1) := by decide +kernel
theorem d_X2_canTake_19 : decode cX2_canTake 19 = .ok (.if_icmp .gt 7, 3) := by decide +kernel
theorem d_X2_canTake_22 : decode cX2_canTake 22 = .ok (.iconst 1, 1) := by decide +kernel
theorem d_X2_canTake_23 : decode cX2_canTake 23 = .ok (.goto 4, 3) := by decide +kernel
theorem d_X2_canTake_26 : decode cX2_canTake 26 = .ok (.iconst 0, 1) := by decide +kernel
theorem d_X2_canTake_27 : decode cX2_canTake 27 = .ok (.ireturn, 1) := by decide +kernel
theorem d_X3_init_0 : decode cX3_init 0 = .ok (.aload_n 0, 1) := by decide +kernel
theorem d_X3_init_1 : decode cX3_init 1 = .ok (.invokespecial 1, 3) := by decide +kernel
theorem d_X3_init_4 : decode cX3_init 4 = .ok (.aload_n 0, 1) := by decide +kernel
theorem d_X3_init_5 : decode cX3_init 5 = .ok (.iconst 0, 1) := by decide +kernel
theorem d_X3_init_6 : decode cX3_init 6 = .ok (.putfield 7, 3) := by decide +kernel
theorem d_X3_init_9 : decode cX3_init 9 = .ok (.aload_n 0, 1) := by decide +kernel
theorem d_X3_init_10 : decode cX3_init 10 = .ok (.new 13, 3) := by decide +kernel
theorem d_X3_init_13 : decode cX3_init 13 = .ok (.dup, 1) := by decide +kernel
theorem d_X3_init_14 : decode cX3_init 14 = .ok (.invokespecial 15, 3) := by decide +kernel
theorem d_X3_init_17 : decode cX3_init 17 = .ok (.putfield 16, 3) := by decide +kernel
theorem d_X3_init_20 : decode cX3_init 20 = .ok (.return_, 1) := by decide +kernel
theorem d_X3_copyFrom_0 : decode cX3_copyFrom 0 = .ok (.aload_n 0, 1) := by decide +kernel
theorem d_X3_copyFrom_1 : decode cX3_copyFrom 1 = .ok (.aload_n 1, 1) := by decide +kernel
theorem d_X3_copyFrom_2 : decode cX3_copyFrom 2 = .ok (.getfield 7, 3) := by decide +kernel
theorem d_X3_copyFrom_5 : decode cX3_copyFrom 5 = .ok (.putfield 7, 3) := by decide +kernel
theorem d_X3_copyFrom_8 : decode cX3_copyFrom 8 = .ok (.aload_n 0, 1) := by decide +kernel
theorem d_X3_copyFrom_9 : decode cX3_copyFrom 9 = .ok (.getfield 16, 3) := by decide +kernel
theorem d_X3_copyFrom_12 : decode cX3_copyFrom 12 = .ok (.aload_n 1, 1) := by decide +kernel
theorem d_X3_copyFrom_13 : decode cX3_copyFrom 13 = .ok (.getfield 16, 3) := by decide +kernel
theorem d_X3_copyFrom_16 : decode cX3_copyFrom 16 = .ok (.invokevirtual 20, 3) := by decide +kernel
theorem d_X3_copyFrom_19 : decode cX3_copyFrom 19 = .ok (.return_, 1) := by decide +kernel
theorem d_X4_init_0 : decode cX4_init 0 = .ok (.aload_n 0, 1) := by decide +kernel
theorem d_X4_init_1 : decode cX4_init 1 = .ok (.invokespecial 3, 3) := by decide +kernel
theorem d_X4_init_4 : decode cX4_init 4 = .ok (.aload_n 0, 1) := by decide +kernel
theorem d_X4_init_5 : decode cX4_init 5 = .ok (.iconst 0, 1) := by decide +kernel
theorem d_X4_init_6 : decode cX4_init 6 = .ok (.putfield 9, 3) := by decide +kernel
theorem d_X4_init_9 : decode cX4_init 9 = .ok (.aload_n 0, 1) := by decide +kernel
theorem d_X4_init_10 : decode cX4_init 10 = .ok (.iconst 0, 1) := by decide +kernel
theorem d_X4_init_11 : decode cX4_init 11 = .ok (.putfield 15, 3) := by decide +kernel
theorem d_X4_init_14 : decode cX4_init 14 = .ok (.aload_n 0, 1) := by decide +kernel
theorem d_X4_init_15 : decode cX4_init 15 = .ok (.iconst 0, 1) := by decide +kernel
theorem d_X4_init_16 : decode cX4_init 16 = .ok (.putfield 18, 3) := by decide +kernel
theorem d_X4_init_19 : decode cX4_init 19 = .ok (.aload_n 0, 1) := by decide +kernel
theorem d_X4_init_20 : decode cX4_init 20 = .ok (.iconst 0, 1) := by decide +kernel
theorem d_X4_init_21 : decode cX4_init 21 = .ok (.putfield 21, 3) := by decide +kernel
theorem d_X4_init_24 : decode cX4_init 24 = .ok (.aload_n 0, 1) := by decide +kernel
theorem d_X4_init_25 : decode cX4_init 25 = .ok (.iconst 0, 1) := by decide +kernel
theorem d_X4_init_26 : decode cX4_init 26 = .ok (.putfield 24, 3) := by decide +kernel
theorem d_X4_init_29 : decode cX4_init 29 = .ok (.aload_n 0, 1) := by decide +kernel
theorem d_X4_init_30 : decode cX4_init 30 = .ok (.iconst 0, 1) := by decide +kernel
theorem d_X4_init_31 : decode cX4_init 31 = .ok (.putfield 27, 3) := by decide +kernel
theorem d_X4_init_34 : decode cX4_init 34 = .ok (.aload_n 0, 1) := by decide +kernel
theorem d_X4_init_35 : decode cX4_init 35 = .ok (.iconst 0, 1) := by decide +kernel
theorem d_X4_init_36 : decode cX4_init 36 = .ok (.putfield 30, 3) := by decide +kernel
theorem d_X4_init_39 : decode cX4_init 39 = .ok (.aload_n 0, 1) := by decide +kernel
theorem d_X4_init_40 : decode cX4_init 40 = .ok (.iconst 0, 1) := by decide +kernel
theorem d_X4_init_41 : decode cX4_init 41 = .ok (.putfield 33, 3) := by decide +kernel
theorem d_X4_init_44 : decode cX4_init 44 = .ok (.aload_n 0, 1) := by decide +kernel
theorem d_X4_init_45 : decode cX4_init 45 = .ok (.bipush 100, 2) := by decide +kernel
theorem d_X4_init_47 : decode cX4_init 47 = .ok (.newarray .int, 2) := by decide +kernel
theorem d_X4_init_49 : decode cX4_init 49 = .ok (.putfield 36, 3) := by decide +kernel
theorem d_X4_init_52 : decode cX4_init 52 = .ok (.aload_n 0, 1) := by decide +kernel
theorem d_X4_init_53 : decode cX4_init 53 = .ok (.bipush 100, 2) := by decide +kernel
theorem d_X4_init_55 : decode cX4_init 55 = .ok (.newarray .boolean, 2) := by decide +kernel
theorem d_X4_init_57 : decode cX4_init 57 = .ok (.putfield 40, 3) := by decide +kernel
theorem d_X4_init_60 : decode cX4_init 60 = .ok (.aload_n 0, 1) := by decide +kernel
theorem d_X4_init_61 : decode cX4_init 61 = .ok (.bipush 10, 2) := by decide +kernel
theorem d_X4_init_63 : decode cX4_init 63 = .ok (.anewarray 44, 3) := by decide +kernel
theorem d_X4_init_66 : decode cX4_init 66 = .ok (.putfield 46, 3) := by decide +kernel
theorem d_X4_init_69 : decode cX4_init 69 = .ok (.aload_n 0, 1) := by decide +kernel
theorem d_X4_init_70 : decode cX4_init 70 = .ok (.bipush 11, 2) := by decide +kernel
theorem d_X4_init_72 : decode cX4_init 72 = .ok (.anewarray 50, 3) := by decide +kernel
theorem d_X4_init_75 : decode cX4_init 75 = .ok (.putfield 52, 3) := by decide +kernel
theorem d_X4_init_78 : decode cX4_init 78 = .ok (.aload_n 0, 1) := by decide +kernel
theorem d_X4_init_79 : decode cX4_init 79 = .ok (.iconst 5, 1) := by decide +kernel
theorem d_X4_init_80 : decode cX4_init 80 = .ok (.anewarray 56, 3) := by decide +kernel
theorem d_X4_init_83 : decode cX4_init 83 = .ok (.putfield 58, 3) := by decide +kernel
theorem d_X4_init_86 : decode cX4_init 86 = .ok (.aload_n 0, 1) := by decide +kernel
theorem d_X4_init_87 : decode cX4_init 87 = .ok (.bipush 12, 2) := by decide +kernel
theorem d_X4_init_89 : decode cX4_init 89 = .ok (.anewarray 62, 3) := by decide +kernel
theorem d_X4_init_92 : decode cX4_init 92 = .ok (.putfield 64, 3) := by decide +kernel
theorem d_X4_init_95 : decode cX4_init 95 = .ok (.aload_n 0, 1) := by decide +kernel
theorem d_X4_init_96 : decode cX4_init 96 = .ok (.bipush 6, 2) := by decide +kernel
theorem d_X4_init_98 : decode cX4_init 98 = .ok (.anewarray 68, 3) := by decide +kernel
theorem d_X4_init_101 : decode cX4_init 101 = .ok (.putfield 70, 3) := by decide +kernel
theorem d_X4_init_104 : decode cX4_init 104 = .ok (.aload_n 0, 1) := by decide +kernel
theorem d_X4_init_105 : decode cX4_init 105 = .ok (.bipush 8, 2) := by decide +kernel
theorem d_X4_init_107 : decode cX4_init 107 = .ok (.anewarray 74, 3) := by decide +kernel
theorem d_X4_init_110 : decode cX4_init 110 = .ok (.putfield 76, 3) := by decide +kernel
theorem d_X4_init_113 : decode cX4_init 113 = .ok (.aload_n 0, 1) := by decide +kernel
theorem d_X4_init_114 : decode cX4_init 114 = .ok (.getfield 36, 3) := by decide +kernel
theorem d_X4_init_117 : decode cX4_init 117 = .ok (.sipush (-1000), 3) := by decide +kernel
theorem d_X4_init_120 : decode cX4_init 120 = .ok (.invokestatic 80, 3) := by decide +kernel
theorem d_X4_init_123 : decode cX4_init 123 = .ok (.iconst 0, 1) := by decide +kernel
theorem d_X4_init_124 : decode cX4_init 124 = .ok (.istore_n 1, 1) := by decide +kernel
theorem d_X4_init_125 : decode cX4_init 125 = .ok (.iload_n 1, 1) := by decide +kernel
theorem d_X4_init_126 : decode cX4_init 126 = .ok (.bipush 10, 2) := by decide +kernel
theorem d_X4_init_128 : decode cX4_init 128 = .ok (.if_icmp .ge 22, 3) := by decide +kernel
theorem d_X4_init_131 : decode cX4_init 131 = .ok (.aload_n 0, 1) := by decide +kernel
theorem d_X4_init_132 : decode cX4_init 132 = .ok (.getfield 46, 3) := by decide +kernel
theorem d_X4_init_135 : decode cX4_init 135 = .ok (.iload_n 1, 1) := by decide +kernel
theorem d_X4_init_136 : decode cX4_init 136 = .ok (.new 44, 3) := by decide +kernel
theorem d_X4_init_139 : decode cX4_init 139 = .ok (.dup, 1) := by decide +kernel
theorem d_X4_init_140 : decode cX4_init 140 = .ok (.invokespecial 86, 3) := by decide +kernel
theorem d_X4_init_143 : decode cX4_init 143 = .ok (.aastore, 1) := by decide +kernel
theorem d_X4_init_144 : decode cX4_init 144 = .ok (.iinc 1 1, 3) := by decide +kernel
theorem d_X4_init_147 : decode cX4_init 147 = .ok (.goto (-22), 3) := by decide +kernel
theorem d_X4_init_150 : decode cX4_init 150 = .ok (.iconst 0, 1) := by decide +kernel
theorem d_X4_init_151 : decode cX4_init 151 = .ok (.istore_n 1, 1) := by decide +kernel
theorem d_X4_init_152 : decode cX4_init 152 = .ok (.iload_n 1, 1) := by decide +kernel
theorem d_X4_init_153 : decode cX4_init 153 = .ok (.bipush 11, 2) := by decide +kernel
theorem d_X4_init_155 : decode cX4_init 155 = .ok (.if_icmp .ge 22, 3) := by decide +kernel
theorem d_X4_init_158 : decode cX4_init 158 = .ok (.aload_n 0, 1) := by decide +kernel
theorem d_X4_init_159 : decode cX4_init 159 = .ok (.getfield 52, 3) := by decide +kernel
theorem d_X4_init_162 : decode cX4_init 162 = .ok (.iload_n 1, 1) := by decide +kernel
theorem d_X4_init_163 : decode cX4_init 163 = .ok (.new 50, 3) := by decide +kernel
theorem d_X4_init_166 : decode cX4_init 166 = .ok (.dup, 1) := by decide +kernel
theorem d_X4_init_167 : decode cX4_init 167 = .ok (.invokespecial 87, 3) := by decide +kernel
theorem d_X4_init_170 : decode cX4_init 170 = .ok (.aastore, 1) := by decide +kernel
theorem d_X4_init_171 : decode cX4_init 171 = .ok (.iinc 1 1, 3) := by decide +kernel
theorem d_X4_init_174 : decode cX4_init 174 = .ok (.goto (-22), 3) := by decide +kernel
theorem d_X4_init_177 : decode cX4_init 177 = .ok (.iconst 0, 1) := by decide +kernel
theorem d_X4_init_178 : decode cX4_init 178 = .ok (.istore_n 1, 1) := by decide +kernel
theorem d_X4_init_179 : decode cX4_init 179 = .ok (.iload_n 1, 1) := by decide +kernel
theorem d_X4_init_180 : decode cX4_init 180 = .ok (.iconst 5, 1) := by decide +kernel
theorem d_X4_init_181 : decode cX4_init 181 = .ok (.if_icmp .ge 22, 3) := by decide +kernel
theorem d_X4_init_184 : decode cX4_init 184 = .ok (.aload_n 0, 1) := by decide +kernel
theorem d_X4_init_185 : decode cX4_init 185 = .ok (.getfield 58, 3) := by decide +kernel
theorem d_X4_init_188 : decode cX4_init 188 = .ok (.iload_n 1, 1) := by decide +kernel
theorem d_X4_init_189 : decode cX4_init 189 = .ok (.new 56, 3) := by decide +kernel
theorem d_X4_init_192 : decode cX4_init 192 = .ok (.dup, 1) := by decide +kernel
theorem d_X4_init_193 : decode cX4_init 193 = .ok (.invokespecial 88, 3) := by decide +kernel
theorem d_X4_init_196 : decode cX4_init 196 = .ok (.aastore, 1) := by decide +kernel
theorem d_X4_init_197 : decode cX4_init 197 = .ok (.iinc 1 1, 3) := by decide +kernel
theorem d_X4_init_200 : decode cX4_init 200 = .ok (.goto (-21), 3) := by decide +kernel
theorem d_X4_init_203 : decode cX4_init 203 = .ok (.iconst 0, 1) := by decide +kernel
theorem d_X4_init_204 : decode cX4_init 204 = .ok (.istore_n 1, 1) := by decide +kernel
theorem d_X4_init_205 : decode cX4_init 205 = .ok (.iload_n 1, 1) := by decide +kernel
theorem d_X4_init_206 : decode cX4_init 206 = .ok (.bipush 12, 2) := by decide +kernel
theorem d_X4_init_208 : decode cX4_init 208 = .ok (.if_icmp .ge 22, 3) := by decide +kernel
theorem d_X4_init_211 : decode cX4_init 211 = .ok (.aload_n 0, 1) := by decide +kernel
theorem d_X4_init_212 : decode cX4_init 212 = .ok (.getfield 64, 3) := by decide +kernel
theorem d_X4_init_215 : decode cX4_init 215 = .ok (.iload_n 1, 1) := by decide +kernel
theorem d_X4_init_216 : decode cX4_init 216 = .ok (.new 62, 3) := by decide +kernel
theorem d_X4_init_219 : decode cX4_init 219 = .ok (.dup, 1) := by decide +kernel
theorem d_X4_init_220 : decode cX4_init 220 = .ok (.invokespecial 89, 3) := by decide +kernel
theorem d_X4_init_223 : decode cX4_init 223 = .ok (.aastore, 1) := by decide +kernel
theorem d_X4_init_224 : decode cX4_init 224 = .ok (.iinc 1 1, 3) := by decide +kernel
theorem d_X4_init_227 : decode cX4_init 227 = .ok (.goto (-22), 3) := by decide +kernel
theorem d_X4_init_230 : decode cX4_init 230 = .ok (.iconst 0, 1) := by decide +kernel
theorem d_X4_init_231 : decode cX4_init 231 = .ok (.istore_n 1, 1) := by decide +kernel
theorem d_X4_init_232 : decode cX4_init 232 = .ok (.iload_n 1, 1) := by decide +kernel
theorem d_X4_init_233 : decode cX4_init 233 = .ok (.bipush 6, 2) := by decide +kernel
theorem d_X4_init_235 : decode cX4_init 235 = .ok (.if_icmp .ge 22, 3) := by decide +kernel
theorem d_X4_init_238 : decode cX4_init 238 = .ok (.aload_n 0, 1) := by decide +kernel
theorem d_X4_init_239 : decode cX4_init 239 = .ok (.getfield 70, 3) := by decide +kernel
theorem d_X4_init_242 : decode cX4_init 242 = .ok (.iload_n 1, 1) := by decide +kernel
theorem d_X4_init_243 : decode cX4_init 243 = .ok (.new 68, 3) := by decide +kernel
theorem d_X4_init_246 : decode cX4_init 246 = .ok (.dup, 1) := by decide +kernel
theorem d_X4_init_247 : decode cX4_init 247 = .ok (.invokespecial 90, 3) := by decide +kernel
theorem d_X4_init_250 : decode cX4_init 250 = .ok (.aastore, 1) := by decide +kernel
theorem d_X4_init_251 : decode cX4_init 251 = .ok (.iinc 1 1, 3) := by decide +kernel
theorem d_X4_init_254 : decode cX4_init 254 = .ok (.goto (-22), 3) := by decide +kernel
theorem d_X4_init_257 : decode cX4_init 257 = .ok (.iconst 0, 1) := by decide +kernel
theorem d_X4_init_258 : decode cX4_init 258 = .ok (.istore_n 1, 1) := by decide +kernel
theorem d_X4_init_259 : decode cX4_init 259 = .ok (.iload_n 1, 1) := by decide +kernel
theorem d_X4_init_260 : decode cX4_init 260 = .ok (.bipush 8, 2) := by decide +kernel
theorem d_X4_init_262 : decode cX4_init 262 = .ok (.if_icmp .ge 22, 3) := by decide +kernel
theorem d_X4_init_265 : decode cX4_init 265 = .ok (.aload_n 0, 1) := by decide +kernel
theorem d_X4_init_266 : decode cX4_init 266 = .ok (.getfield 76, 3) := by decide +kernel
theorem d_X4_init_269 : decode cX4_init 269 = .ok (.iload_n 1, 1) := by decide +kernel
theorem d_X4_init_270 : decode cX4_init 270 = .ok (.new 74, 3) := by decide +kernel
theorem d_X4_init_273 : decode cX4_init 273 = .ok (.dup, 1) := by decide +kernel
theorem d_X4_init_274 : decode cX4_init 274 = .ok (.invokespecial 91, 3) := by decide +kernel
theorem d_X4_init_277 : decode cX4_init 277 = .ok (.aastore, 1) := by decide +kernel
theorem d_X4_init_278 : decode cX4_init 278 = .ok (.iinc 1 1, 3) := by decide +kernel
theorem d_X4_init_281 : decode cX4_init 281 = .ok (.goto (-22), 3) := by decide +kernel
theorem d_X4_init_284 : decode cX4_init 284 = .ok (.return_, 1) := by decide +kernel
theorem d_X4_copyFrom_0 : decode cX4_copyFrom 0 = .ok (.aload_n 0, 1) := by decide +kernel
theorem d_X4_copyFrom_1 : decode cX4_copyFrom 1 = .ok (.aload_n 1, 1) := by decide +kernel
theorem d_X4_copyFrom_2 : decode cX4_copyFrom 2 = .ok (.getfield 9, 3) := by decide +kernel
theorem d_X4_copyFrom_5 : decode cX4_copyFrom 5 = .ok (.putfield 9, 3) := by decide +kernel
theorem d_X4_copyFrom_8 : decode cX4_copyFrom 8 = .ok (.aload_n 0, 1) := by decide +kernel
theorem d_X4_copyFrom_9 : decode cX4_copyFrom 9 = .ok (.aload_n 1, 1) := by decide +kernel
theorem d_X4_copyFrom_10 : decode cX4_copyFrom 10 = .ok (.getfield 15, 3) := by decide +kernel
theorem d_X4_copyFrom_13 : decode cX4_copyFrom 13 = .ok (.putfield 15, 3) := by decide +kernel
theorem d_X4_copyFrom_16 : decode cX4_copyFrom 16 = .ok (.aload_n 0, 1) := by decide +kernel
theorem d_X4_copyFrom_17 : decode cX4_copyFrom 17 = .ok (.aload_n 1, 1) := by decide +kernel
theorem d_X4_copyFrom_18 : decode cX4_copyFrom 18 = .ok (.getfield 18, 3) := by decide +kernel
theorem d_X4_copyFrom_21 : decode cX4_copyFrom 21 = .ok (.putfield 18, 3) := by decide +kernel
theorem d_X4_copyFrom_24 : decode cX4_copyFrom 24 = .ok (.aload_n 0, 1) := by decide +kernel
theorem d_X4_copyFrom_25 : decode cX4_copyFrom 25 = .ok (.aload_n 1, 1) := by decide +kernel
theorem d_X4_copyFrom_26 : decode cX4_copyFrom 26 = .ok (.getfield 21, 3) := by decide +kernel
theorem d_X4_copyFrom_29 : decode cX4_copyFrom 29 = .ok (.putfield 21, 3) := by decide +kernel
theorem d_X4_copyFrom_32 : decode cX4_copyFrom 32 = .ok (.aload_n 0, 1) := by decide +kernel
theorem d_X4_copyFrom_33 : decode cX4_copyFrom 33 = .ok (.aload_n 1, 1) := by decide +kernel
theorem d_X4_copyFrom_34 : decode cX4_copyFrom 34 = .ok (.getfield 24, 3) := by decide +kernel
theorem d_X4_copyFrom_37 : decode cX4_copyFrom 37 = .ok (.putfield 24, 3) := by decide +kernel
theorem d_X4_copyFrom_40 : decode cX4_copyFrom 40 = .ok (.aload_n 0, 1) := by decide +kernel
theorem d_X4_copyFrom_41 : decode cX4_copyFrom 41 = .ok (.aload_n 1, 1) := by decide +kernel
theorem d_X4_copyFrom_42 : decode cX4_copyFrom 42 = .ok (.getfield 27, 3) := by decide +kernel
theorem d_X4_copyFrom_45 : decode cX4_copyFrom 45 = .ok (.putfield 27, 3) := by decide +kernel
theorem d_X4_copyFrom_48 : decode cX4_copyFrom 48 = .ok (.aload_n 0, 1) := by decide +kernel
theorem d_X4_copyFrom_49 : decode cX4_copyFrom 49 = .ok (.aload_n 1, 1) := by decide +kernel
theorem d_X4_copyFrom_50 : decode cX4_copyFrom 50 = .ok (.getfield 30, 3) := by decide +kernel
theorem d_X4_copyFrom_53 : decode cX4_copyFrom 53 = .ok (.putfield 30, 3) := by decide +kernel
theorem d_X4_copyFrom_56 : decode cX4_copyFrom 56 = .ok (.aload_n 0, 1) := by decide +kernel
theorem d_X4_copyFrom_57 : decode cX4_copyFrom 57 = .ok (.aload_n 1, 1) := by decide +kernel
theorem d_X4_copyFrom_58 : decode cX4_copyFrom 58 = .ok (.getfield 33, 3) := by decide +kernel
theorem d_X4_copyFrom_61 : decode cX4_copyFrom 61 = .ok (.putfield 33, 3) := by decide +kernel
theorem d_X4_copyFrom_64 : decode cX4_copyFrom 64 = .ok (.aload_n 1, 1) := by decide +kernel
theorem d_X4_copyFrom_65 : decode cX4_copyFrom 65 = .ok (.getfield 36, 3) := by decide +kernel
theorem d_X4_copyFrom_68 : decode cX4_copyFrom 68 = .ok (.iconst 0, 1) := by decide +kernel
theorem d_X4_copyFrom_69 : decode cX4_copyFrom 69 = .ok (.aload_n 0, 1) := by decide +kernel
theorem d_X4_copyFrom_70 : decode cX4_copyFrom 70 = .ok (.getfield 36, 3) := by decide +kernel
theorem d_X4_copyFrom_73 : decode cX4_copyFrom 73 = .ok (.iconst 0, 1) := by decide +kernel
theorem d_X4_copyFrom_74 : decode cX4_copyFrom 74 = .ok (.bipush 100, 2) := by decide +kernel
theorem d_X4_copyFrom_76 : decode cX4_copyFrom 76 = .ok (.invokestatic 92, 3) := by decide +kernel
theorem d_X4_copyFrom_79 : decode cX4_copyFrom 79 = .ok (.aload_n 1, 1) := by decide +kernel
theorem d_X4_copyFrom_80 : decode cX4_copyFrom 80 = .ok (.getfield 40, 3) := by decide +kernel
theorem d_X4_copyFrom_83 : decode cX4_copyFrom 83 = .ok (.iconst 0, 1) := by decide +kernel
theorem d_X4_copyFrom_84 : decode cX4_copyFrom 84 = .ok (.aload_n 0, 1) := by decide +kernel
theorem d_X4_copyFrom_85 : decode cX4_copyFrom 85 = .ok (.getfield 40, 3) := by decide +kernel
theorem d_X4_copyFrom_88 : decode cX4_copyFrom 88 = .ok (.iconst 0, 1) := by decide +kernel
theorem d_X4_copyFrom_89 : decode cX4_copyFrom 89 = .ok (.bipush 100, 2) := by decide +kernel
theorem d_X4_copyFrom_91 : decode cX4_copyFrom 91 = .ok (.invokestatic 92, 3) := by decide +kernel
theorem d_X4_copyFrom_94 : decode cX4_copyFrom 94 = .ok (.aload_n 0, 1) := by decide +kernel
theorem d_X4_copyFrom_95 : decode cX4_copyFrom 95 = .ok (.aload_n 1, 1) := by decide +kernel
theorem d_X4_copyFrom_96 : decode cX4_copyFrom 96 = .ok (.invokevirtual 98, 3) := by decide +kernel
theorem d_X4_copyFrom_99 : decode cX4_copyFrom 99 = .ok (.return_, 1) := by decide +kernel
theorem d_X4_copyThings_0 : decode cX4_copyThings 0 = .ok (.iconst 0, 1) := by decide +kernel
theorem d_X4_copyThings_1 : decode cX4_copyThings 1 = .ok (.istore_n 2, 1) := by decide +kernel
theorem d_X4_copyThings_2 : decode cX4_copyThings 2 = .ok (.iload_n 2, 1) := by decide +kernel
theorem d_X4_copyThings_3 : decode cX4_copyThings 3 = .ok (.bipush 10, 2) := by decide +kernel
theorem d_X4_copyThings_5 : decode cX4_copyThings 5 = .ok (.if_icmp .ge 24, 3) := by decide +kernel
theorem d_X4_copyThings_8 : decode cX4_copyThings 8 = .ok (.aload_n 0, 1) := by decide +kernel
theorem d_X4_copyThings_9 : decode cX4_copyThings 9 = .ok (.getfield 46, 3) := by decide +kernel
theorem d_X4_copyThings_12 : decode cX4_copyThings 12 = .ok (.iload_n 2, 1) := by decide +kernel
theorem d_X4_copyThings_13 : decode cX4_copyThings 13 = .ok (.aaload, 1) := by decide +kernel
theorem d_X4_copyThings_14 : decode cX4_copyThings 14 = .ok (.aload_n 1, 1) := by decide +kernel
theorem d_X4_copyThings_15 : decode cX4_copyThings 15 = .ok (.getfield 46, 3) := by decide +kernel
theorem d_X4_copyThings_18 : decode cX4_copyThings 18 = .ok (.iload_n 2, 1) := by decide +kernel
theorem d_X4_copyThings_19 : decode cX4_copyThings 19 = .ok (.aaload, 1) := by decide +kernel
theorem d_X4_copyThings_20 : decode cX4_copyThings 20 = .ok (.invokevirtual 102, 3) := by decide +kernel
theorem d_X4_copyThings_23 : decode cX4_copyThings 23 = .ok (.iinc 2 1, 3) := by decide +kernel
theorem d_X4_copyThings_26 : decode cX4_copyThings 26 = .ok (.goto (-24), 3) := by decide +kernel
theorem d_X4_copyThings_29 : decode cX4_copyThings 29 = .ok (.iconst 0, 1) := by decide +kernel
theorem d_X4_copyThings_30 : decode cX4_copyThings 30 = .ok (.istore_n 2, 1) := by decide +kernel
theorem d_X4_copyThings_31 : decode cX4_copyThings 31 = .ok (.iload_n 2, 1) := by decide +kernel
theorem d_X4_copyThings_32 : decode cX4_copyThings 32 = .ok (.bipush 11, 2) := by decide +kernel
theorem d_X4_copyThings_34 : decode cX4_copyThings 34 = .ok (.if_icmp .ge 24, 3) := by decide +kernel
theorem d_X4_copyThings_37 : decode cX4_copyThings 37 = .ok (.aload_n 0, 1) := by decide +kernel
theorem d_X4_copyThings_38 : decode cX4_copyThings 38 = .ok (.getfield 52, 3) := by decide +kernel
theorem d_X4_copyThings_41 : decode cX4_copyThings 41 = .ok (.iload_n 2, 1) := by decide +kernel
theorem d_X4_copyThings_42 : decode cX4_copyThings 42 = .ok (.aaload, 1) := by decide +kernel
theorem d_X4_copyThings_43 : decode cX4_copyThings 43 = .ok (.aload_n 1, 1) := by decide +kernel
theorem d_X4_copyThings_44 : decode cX4_copyThings 44 = .ok (.getfield 52, 3) := by decide +kernel
theorem d_X4_copyThings_47 : decode cX4_copyThings 47 = .ok (.iload_n 2, 1) := by decide +kernel
theorem d_X4_copyThings_48 : decode cX4_copyThings 48 = .ok (.aaload, 1) := by decide +kernel
theorem d_X4_copyThings_49 : decode cX4_copyThings 49 = .ok (.invokevirtual 106, 3) := by decide +kernel
theorem d_X4_copyThings_52 : decode cX4_copyThings 52 = .ok (.iinc 2 1, 3) := by decide +kernel
theorem d_X4_copyThings_55 : decode cX4_copyThings 55 = .ok (.goto (-24), 3) := by decide +kernel
theorem d_X4_copyThings_58 : decode cX4_copyThings 58 = .ok (.iconst 0, 1) := by decide +kernel
theorem d_X4_copyThings_59 : decode cX4_copyThings 59 = .ok (.istore_n 2, 1) := by decide +kernel
theorem d_X4_copyThings_60 : decode cX4_copyThings 60 = .ok (.iload_n 2, 1) := by decide +kernel
theorem d_X4_copyThings_61 : decode cX4_copyThings 61 = .ok (.iconst 5, 1) := by decide +kernel
theorem d_X4_copyThings_62 : decode cX4_copyThings 62 = .ok (.if_icmp .ge 24, 3) := by decide +kernel
theorem d_X4_copyThings_65 : decode cX4_copyThings 65 = .ok (.aload_n 0, 1) := by decide +kernel
theorem d_X4_copyThings_66 : decode cX4_copyThings 66 = .ok (.getfield 58, 3) := by decide +kernel
theorem d_X4_copyThings_69 : decode cX4_copyThings 69 = .ok (.iload_n 2, 1) := by decide +kernel
theorem d_X4_copyThings_70 : decode cX4_copyThings 70 = .ok (.aaload, 1) := by decide +kernel
theorem d_X4_copyThings_71 : decode cX4_copyThings 71 = .ok (.aload_n 1, 1) := by decide +kernel
theorem d_X4_copyThings_72 : decode cX4_copyThings 72 = .ok (.getfield 58, 3) := by decide +kernel
theorem d_X4_copyThings_75 : decode cX4_copyThings 75 = .ok (.iload_n 2, 1) := by decide +kernel
theorem d_X4_copyThings_76 : decode cX4_copyThings 76 = .ok (.aaload, 1) := by decide +kernel
theorem d_X4_copyThings_77 : decode cX4_copyThings 77 = .ok (.invokevirtual 109, 3) := by decide +kernel
theorem d_X4_copyThings_80 : decode cX4_copyThings 80 = .ok (.iinc 2 1, 3) := by decide +kernel
theorem d_X4_copyThings_83 : decode cX4_copyThings 83 = .ok (.goto (-23), 3) := by decide +kernel
theorem d_X4_copyThings_86 : decode cX4_copyThings 86 = .ok (.iconst 0, 1) := by decide +kernel
theorem d_X4_copyThings_87 : decode cX4_copyThings 87 = .ok (.istore_n 2, 1) := by decide +kernel
theorem d_X4_copyThings_88 : decode cX4_copyThings 88 = .ok (.iload_n 2, 1) := by decide +kernel
theorem d_X4_copyThings_89 : decode cX4_copyThings 89 = .ok (.bipush 12, 2) := by decide +kernel
theorem d_X4_copyThings_91 : decode cX4_copyThings 91 = .ok (.if_icmp .ge 24, 3) := by decide +kernel
theorem d_X4_copyThings_94 : decode cX4_copyThings 94 = .ok (.aload_n 0, 1) := by decide +kernel
theorem d_X4_copyThings_95 : decode cX4_copyThings 95 = .ok (.getfield 64, 3) := by decide +kernel
theorem d_X4_copyThings_98 : decode cX4_copyThings 98 = .ok (.iload_n 2, 1) := by decide +kernel
theorem d_X4_copyThings_99 : decode cX4_copyThings 99 = .ok (.aaload, 1) := by decide +kernel
theorem d_X4_copyThings_100 : decode cX4_copyThings 100 = .ok (.aload_n 1, 1) := by decide +kernel
theorem d_X4_copyThings_101 : decode cX4_copyThings 101 = .ok (.getfield 64, 3) := by decide +kernel
theorem d_X4_copyThings_104 : decode cX4_copyThings 104 = .ok (.iload_n 2, 1) := by decide +kernel
theorem d_X4_copyThings_105 : decode cX4_copyThings 105 = .ok (.aaload, 1) := by decide +kernel
theorem d_X4_copyThings_106 : decode cX4_copyThings 106 = .ok (.invokevirtual 112, 3) := by decide +kernel
theorem d_X4_copyThings_109 : decode cX4_copyThings 109 = .ok (.iinc 2 1, 3) := by decide +kernel
theorem d_X4_copyThings_112 : decode cX4_copyThings 112 = .ok (.goto (-24), 3) := by decide +kernel
theorem d_X4_copyThings_115 : decode cX4_copyThings 115 = .ok (.iconst 0, 1) := by decide +kernel
theorem d_X4_copyThings_116 : decode cX4_copyThings 116 = .ok (.istore_n 2, 1) := by decide +kernel
theorem d_X4_copyThings_117 : decode cX4_copyThings 117 = .ok (.iload_n 2, 1) := by decide +kernel
theorem d_X4_copyThings_118 : decode cX4_copyThings 118 = .ok (.bipush 6, 2) := by decide +kernel
theorem d_X4_copyThings_120 : decode cX4_copyThings 120 = .ok (.if_icmp .ge 24, 3) := by decide +kernel
theorem d_X4_copyThings_123 : decode cX4_copyThings 123 = .ok (.aload_n 0, 1) := by decide +kernel
theorem d_X4_copyThings_124 : decode cX4_copyThings 124 = .ok (.getfield 70, 3) := by decide +kernel
theorem d_X4_copyThings_127 : decode cX4_copyThings 127 = .ok (.iload_n 2, 1) := by decide +kernel
theorem d_X4_copyThings_128 : decode cX4_copyThings 128 = .ok (.aaload, 1) := by decide +kernel
theorem d_X4_copyThings_129 : decode cX4_copyThings 129 = .ok (.aload_n 1, 1) := by decide +kernel
theorem d_X4_copyThings_130 : decode cX4_copyThings 130 = .ok (.getfield 70, 3) := by decide +kernel
theorem d_X4_copyThings_133 : decode cX4_copyThings 133 = .ok (.iload_n 2, 1) := by decide +kernel
theorem d_X4_copyThings_134 : decode cX4_copyThings 134 = .ok (.aaload, 1) := by decide +kernel
theorem d_X4_copyThings_135 : decode cX4_copyThings 135 = .ok (.invokevirtual 115, 3) := by decide +kernel
theorem d_X4_copyThings_138 : decode cX4_copyThings 138 = .ok (.iinc 2 1, 3) := by decide +kernel
theorem d_X4_copyThings_141 : decode cX4_copyThings 141 = .ok (.goto (-24), 3) := by decide +kernel
theorem d_X4_copyThings_144 : decode cX4_copyThings 144 = .ok (.iconst 0, 1) := by decide +kernel
theorem d_X4_copyThings_145 : decode cX4_copyThings 145 = .ok (.istore_n 2, 1) := by decide +kernel
theorem d_X4_copyThings_146 : decode cX4_copyThings 146 = .ok (.iload_n 2, 1) := by decide +kernel
theorem d_X4_copyThings_147 : decode cX4_copyThings 147 = .ok (.bipush 8, 2) := by decide +kernel
theorem d_X4_copyThings_149 : decode cX4_copyThings 149 = .ok (.if_icmp .ge 24, 3) := by decide +kernel
theorem d_X4_copyThings_152 : decode cX4_copyThings 152 = .ok (.aload_n 0, 1) := by decide +kernel
theorem d_X4_copyThings_153 : decode cX4_copyThings 153 = .ok (.getfield 76, 3) := by decide +kernel
theorem d_X4_copyThings_156 : decode cX4_copyThings 156 = .ok (.iload_n 2, 1) := by decide +kernel
theorem d_X4_copyThings_157 : decode cX4_copyThings 157 = .ok (.aaload, 1) := by decide +kernel
theorem d_X4_copyThings_158 : decode cX4_copyThings 158 = .ok (.aload_n 1, 1) := by decide +kernel
theorem d_X4_copyThings_159 : decode cX4_copyThings 159 = .ok (.getfield 76, 3) := by decide +kernel
theorem d_X4_copyThings_162 : decode cX4_copyThings 162 = .ok (.iload_n 2, 1) := by decide +kernel
theorem d_X4_copyThings_163 : decode cX4_copyThings 163 = .ok (.aaload, 1) := by decide +kernel
theorem d_X4_copyThings_164 : decode cX4_copyThings 164 = .ok (.invokevirtual 118, 3) := by decide +kernel
theorem d_X4_copyThings_167 : decode cX4_copyThings 167 = .ok (.iinc 2 1, 3) := by decide +kernel
theorem d_X4_copyThings_170 : decode cX4_copyThings 170 = .ok (.goto (-24), 3) := by decide +kernel
theorem d_X4_copyThings_173 : decode cX4_copyThings 173 = .ok (.return_, 1) := by decide +kernel
theorem d_X4_isStretch_0 : decode cX4_isStretch 0 = .ok (.iload_n 1, 1) := by decide +kernel
theorem d_X4_isStretch_1 : decode cX4_isStretch 1 = .ok (.iconst 0, 1) := by decide +kernel
theorem d_X4_isStretch_2 : decode cX4_isStretch 2 = .ok (.aload_n 0, 1) := by decide +kernel
theorem d_X4_isStretch_3 : decode cX4_isStretch 3 = .ok (.getfield 15, 3) := by decide +kernel
theorem d_X4_isStretch_6 : decode cX4_isStretch 6 = .ok (.iconst 1, 1) := by decide +kernel
theorem d_X4_isStretch_7 : decode cX4_isStretch 7 = .ok (.isub, 1) := by decide +kernel
theorem d_X4_isStretch_8 : decode cX4_isStretch 8 = .ok (.invokestatic 121, 3) := by decide +kernel
theorem d_X4_isStretch_11 : decode cX4_isStretch 11 = .ok (.ireturn, 1) := by decide +kernel
theorem d_X4_isLanding_0 : decode cX4_isLanding 0 = .ok (.iload_n 1, 1) := by decide +kernel
theorem d_X4_isLanding_1 : decode cX4_isLanding 1 = .ok (.iconst 0, 1) := by decide +kernel
theorem d_X4_isLanding_2 : decode cX4_isLanding 2 = .ok (.aload_n 0, 1) := by decide +kernel
theorem d_X4_isLanding_3 : decode cX4_isLanding 3 = .ok (.getfield 15, 3) := by decide +kernel
theorem d_X4_isLanding_6 : decode cX4_isLanding 6 = .ok (.invokestatic 121, 3) := by decide +kernel
theorem d_X4_isLanding_9 : decode cX4_isLanding 9 = .ok (.ireturn, 1) := by decide +kernel
theorem d_X4_isBoat_0 : decode cX4_isBoat 0 = .ok (.iload_n 1, 1) := by decide +kernel
theorem d_X4_isBoat_1 : decode cX4_isBoat 1 = .ok (.iconst 0, 1) := by decide +kernel
theorem d_X4_isBoat_2 : decode cX4_isBoat 2 = .ok (.aload_n 0, 1) := by decide +kernel
theorem d_X4_isBoat_3 : decode cX4_isBoat 3 = .ok (.getfield 18, 3) := by decide +kernel
theorem d_X4_isBoat_6 : decode cX4_isBoat 6 = .ok (.iconst 1, 1) := by decide +kernel
theorem d_X4_isBoat_7 : decode cX4_isBoat 7 = .ok (.isub, 1) := by decide +kernel
theorem d_X4_isBoat_8 : decode cX4_isBoat 8 = .ok (.invokestatic 121, 3) := by decide +kernel
theorem d_X4_isBoat_11 : decode cX4_isBoat 11 = .ok (.ireturn, 1) := by decide +kernel
theorem d_X4_isBale_0 : decode cX4_isBale 0 = .ok (.iload_n 1, 1) := by decide +kernel
theorem d_X4_isBale_1 : decode cX4_isBale 1 = .ok (.iconst 0, 1) := by decide +kernel
theorem d_X4_isBale_2 : decode cX4_isBale 2 = .ok (.aload_n 0, 1) := by decide +kernel
theorem d_X4_isBale_3 : decode cX4_isBale 3 = .ok (.getfield 21, 3) := by decide +kernel
theorem d_X4_isBale_6 : decode cX4_isBale 6 = .ok (.iconst 1, 1) := by decide +kernel
theorem d_X4_isBale_7 : decode cX4_isBale 7 = .ok (.isub, 1) := by decide +kernel
theorem d_X4_isBale_8 : decode cX4_isBale 8 = .ok (.invokestatic 121, 3) := by decide +kernel
theorem d_X4_isBale_11 : decode cX4_isBale 11 = .ok (.ireturn, 1) := by decide +kernel
theorem d_X4_isWay_0 : decode cX4_isWay 0 = .ok (.aload_n 0, 1) := by decide +kernel
theorem d_X4_isWay_1 : decode cX4_isWay 1 = .ok (.iload_n 1, 1) := by decide +kernel
theorem d_X4_isWay_2 : decode cX4_isWay 2 = .ok (.invokevirtual 125, 3) := by decide +kernel
theorem d_X4_isWay_5 : decode cX4_isWay 5 = .ok (.ifCond .eq 20, 3) := by decide +kernel
theorem d_X4_isWay_8 : decode cX4_isWay 8 = .ok (.aload_n 0, 1) := by decide +kernel
theorem d_X4_isWay_9 : decode cX4_isWay 9 = .ok (.iload_n 2, 1) := by decide +kernel
theorem d_X4_isWay_10 : decode cX4_isWay 10 = .ok (.invokevirtual 125, 3) := by decide +kernel
theorem d_X4_isWay_13 : decode cX4_isWay 13 = .ok (.ifCond .eq 12, 3) := by decide +kernel
theorem d_X4_isWay_16 : decode cX4_isWay 16 = .ok (.iload_n 1, 1) := by decide +kernel
theorem d_X4_isWay_17 : decode cX4_isWay 17 = .ok (.iload_n 2, 1) := by decide +kernel
theorem d_X4_isWay_18 : decode cX4_isWay 18 = .ok (.if_icmp .eq 7, 3) := by decide +kernel
theorem d_X4_isWay_21 : decode cX4_isWay 21 = .ok (.iconst 1, 1) := by decide +kernel
theorem d_X4_isWay_22 : decode cX4_isWay 22 = .ok (.goto 4, 3) := by decide +kernel
theorem d_X4_isWay_25 : decode cX4_isWay 25 = .ok (.iconst 0, 1) := by decide +kernel
theorem d_X4_isWay_26 : decode cX4_isWay 26 = .ok (.ireturn, 1) := by decide +kernel
theorem d_X4_today_0 : decode cX4_today 0 = .ok (.aload_n 0, 1) := by decide +kernel
theorem d_X4_today_1 : decode cX4_today 1 = .ok (.getfield 9, 3) := by decide +kernel
theorem d_X4_today_4 : decode cX4_today 4 = .ok (.bipush 96, 2) := by decide +kernel
theorem d_X4_today_6 : decode cX4_today 6 = .ok (.idiv, 1) := by decide +kernel
theorem d_X4_today_7 : decode cX4_today 7 = .ok (.ireturn, 1) := by decide +kernel
theorem d_X4_isNight_0 : decode cX4_isNight 0 = .ok (.aload_n 0, 1) := by decide +kernel
theorem d_X4_isNight_1 : decode cX4_isNight 1 = .ok (.getfield 9, 3) := by decide +kernel
theorem d_X4_isNight_4 : decode cX4_isNight 4 = .ok (.bipush 96, 2) := by decide +kernel
theorem d_X4_isNight_6 : decode cX4_isNight 6 = .ok (.irem, 1) := by decide +kernel
theorem d_X4_isNight_7 : decode cX4_isNight 7 = .ok (.bipush 24, 2) := by decide +kernel
theorem d_X4_isNight_9 : decode cX4_isNight 9 = .ok (.bipush 71, 2) := by decide +kernel
theorem d_X4_isNight_11 : decode cX4_isNight 11 = .ok (.invokestatic 121, 3) := by decide +kernel
theorem d_X4_isNight_14 : decode cX4_isNight 14 = .ok (.ifCond .ne 7, 3) := by decide +kernel
theorem d_X4_isNight_17 : decode cX4_isNight 17 = .ok (.iconst 1, 1) := by decide +kernel
theorem d_X4_isNight_18 : decode cX4_isNight 18 = .ok (.goto 4, 3) := by decide +kernel
theorem d_X4_isNight_21 : decode cX4_isNight 21 = .ok (.iconst 0, 1) := by decide +kernel
theorem d_X4_isNight_22 : decode cX4_isNight 22 = .ok (.ireturn, 1) := by decide +kernel
theorem d_X4_tellHeight_0 : decode cX4_tellHeight 0 = .ok (.aload_n 0, 1) := by decide +kernel
theorem d_X4_tellHeight_1 : decode cX4_tellHeight 1 = .ok (.getfield 36, 3) := by decide +kernel
theorem d_X4_tellHeight_4 : decode cX4_tellHeight 4 = .ok (.iload_n 1, 1) := by decide +kernel
theorem d_X4_tellHeight_5 : decode cX4_tellHeight 5 = .ok (.iaload, 1) := by decide +kernel
theorem d_X4_tellHeight_6 : decode cX4_tellHeight 6 = .ok (.sipush (-1000), 3) := by decide +kernel
theorem d_X4_tellHeight_9 : decode cX4_tellHeight 9 = .ok (.if_icmp .ne 13, 3) := by decide +kernel
theorem d_X4_tellHeight_12 : decode cX4_tellHeight 12 = .ok (.aload_n 0, 1) := by decide +kernel
theorem d_X4_tellHeight_13 : decode cX4_tellHeight 13 = .ok (.dup, 1) := by decide +kernel
theorem d_X4_tellHeight_14 : decode cX4_tellHeight 14 = .ok (.getfield 30, 3) := by decide +kernel
theorem d_X4_tellHeight_17 : decode cX4_tellHeight 17 = .ok (.iconst 1, 1) := by decide +kernel
theorem d_X4_tellHeight_18 : decode cX4_tellHeight 18 = .ok (.iadd, 1) := by decide +kernel
theorem d_X4_tellHeight_19 : decode cX4_tellHeight 19 = .ok (.putfield 30, 3) := by decide +kernel
theorem d_X4_tellHeight_22 : decode cX4_tellHeight 22 = .ok (.aload_n 0, 1) := by decide +kernel
theorem d_X4_tellHeight_23 : decode cX4_tellHeight 23 = .ok (.getfield 36, 3) := by decide +kernel
theorem d_X4_tellHeight_26 : decode cX4_tellHeight 26 = .ok (.iload_n 1, 1) := by decide +kernel
theorem d_X4_tellHeight_27 : decode cX4_tellHeight 27 = .ok (.iload_n 2, 1) := by decide +kernel
theorem d_X4_tellHeight_28 : decode cX4_tellHeight 28 = .ok (.iastore, 1) := by decide +kernel
theorem d_X4_tellHeight_29 : decode cX4_tellHeight 29 = .ok (.return_, 1) := by decide +kernel
theorem d_X4_heightOn_0 : decode cX4_heightOn 0 = .ok (.iload_n 1, 1) := by decide +kernel
theorem d_X4_heightOn_1 : decode cX4_heightOn 1 = .ok (.istore_n 2, 1) := by decide +kernel
theorem d_X4_heightOn_2 : decode cX4_heightOn 2 = .ok (.iload_n 2, 1) := by decide +kernel
theorem d_X4_heightOn_3 : decode cX4_heightOn 3 = .ok (.ifCond .lt 21, 3) := by decide +kernel
theorem d_X4_heightOn_6 : decode cX4_heightOn 6 = .ok (.aload_n 0, 1) := by decide +kernel
theorem d_X4_heightOn_7 : decode cX4_heightOn 7 = .ok (.getfield 36, 3) := by decide +kernel
theorem d_X4_heightOn_10 : decode cX4_heightOn 10 = .ok (.iload_n 2, 1) := by decide +kernel
theorem d_X4_heightOn_11 : decode cX4_heightOn 11 = .ok (.iaload, 1) := by decide +kernel
theorem d_X4_heightOn_12 : decode cX4_heightOn 12 = .ok (.sipush (-1000), 3) := by decide +kernel
theorem d_X4_heightOn_15 : decode cX4_heightOn 15 = .ok (.if_icmp .ne 9, 3) := by decide +kernel
theorem d_X4_heightOn_18 : decode cX4_heightOn 18 = .ok (.iinc 2 (-1), 3) := by decide +kernel
theorem d_X4_heightOn_21 : decode cX4_heightOn 21 = .ok (.goto (-19), 3) := by decide +kernel
theorem d_X4_heightOn_24 : decode cX4_heightOn 24 = .ok (.iload_n 1, 1) := by decide +kernel
theorem d_X4_heightOn_25 : decode cX4_heightOn 25 = .ok (.istore_n 3, 1) := by decide +kernel
theorem d_X4_heightOn_26 : decode cX4_heightOn 26 = .ok (.iload_n 3, 1) := by decide +kernel
theorem d_X4_heightOn_27 : decode cX4_heightOn 27 = .ok (.bipush 100, 2) := by decide +kernel
theorem d_X4_heightOn_29 : decode cX4_heightOn 29 = .ok (.if_icmp .ge 21, 3) := by decide +kernel
theorem d_X4_heightOn_32 : decode cX4_heightOn 32 = .ok (.aload_n 0, 1) := by decide +kernel
theorem d_X4_heightOn_33 : decode cX4_heightOn 33 = .ok (.getfield 36, 3) := by decide +kernel
theorem d_X4_heightOn_36 : decode cX4_heightOn 36 = .ok (.iload_n 3, 1) := by decide +kernel
theorem d_X4_heightOn_37 : decode cX4_heightOn 37 = .ok (.iaload, 1) := by decide +kernel
theorem d_X4_heightOn_38 : decode cX4_heightOn 38 = .ok (.sipush (-1000), 3) := by decide +kernel
theorem d_X4_heightOn_41 : decode cX4_heightOn 41 = .ok (.if_icmp .ne 9, 3) := by decide +kernel
theorem d_X4_heightOn_44 : decode cX4_heightOn 44 = .ok (.iinc 3 1, 3) := by decide +kernel
theorem d_X4_heightOn_47 : decode cX4_heightOn 47 = .ok (.goto (-21), 3) := by decide +kernel
theorem d_X4_heightOn_50 : decode cX4_heightOn 50 = .ok (.iload_n 2, 1) := by decide +kernel
theorem d_X4_heightOn_51 : decode cX4_heightOn 51 = .ok (.ifCond .ge 20, 3) := by decide +kernel
theorem d_X4_heightOn_54 : decode cX4_heightOn 54 = .ok (.iload_n 3, 1) := by decide +kernel
theorem d_X4_heightOn_55 : decode cX4_heightOn 55 = .ok (.bipush 100, 2) := by decide +kernel
theorem d_X4_heightOn_57 : decode cX4_heightOn 57 = .ok (.if_icmp .ge 12, 3) := by decide +kernel
theorem d_X4_heightOn_60 : decode cX4_heightOn 60 = .ok (.aload_n 0, 1) := by decide +kernel
theorem d_X4_heightOn_61 : decode cX4_heightOn 61 = .ok (.getfield 36, 3) := by decide +kernel
theorem d_X4_heightOn_64 : decode cX4_heightOn 64 = .ok (.iload_n 3, 1) := by decide +kernel
theorem d_X4_heightOn_65 : decode cX4_heightOn 65 = .ok (.iaload, 1) := by decide +kernel
theorem d_X4_heightOn_66 : decode cX4_heightOn 66 = .ok (.goto 4, 3) := by decide +kernel
theorem d_X4_heightOn_69 : decode cX4_heightOn 69 = .ok (.iconst 0, 1) := by decide +kernel
theorem d_X4_heightOn_70 : decode cX4_heightOn 70 = .ok (.ireturn, 1) := by decide +kernel
theorem d_X4_heightOn_71 : decode cX4_heightOn 71 = .ok (.iload_n 3, 1) := by decide +kernel
theorem d_X4_heightOn_72 : decode cX4_heightOn 72 = .ok (.bipush 100, 2) := by decide +kernel
theorem d_X4_heightOn_74 : decode cX4_heightOn 74 = .ok (.if_icmp .ge 8, 3) := by decide +kernel
theorem d_X4_heightOn_77 : decode cX4_heightOn 77 = .ok (.iload_n 3, 1) := by decide +kernel
theorem d_X4_heightOn_78 : decode cX4_heightOn 78 = .ok (.iload_n 2, 1) := by decide +kernel
theorem d_X4_heightOn_79 : decode cX4_heightOn 79 = .ok (.if_icmp .ne 10, 3) := by decide +kernel
theorem d_X4_heightOn_82 : decode cX4_heightOn 82 = .ok (.aload_n 0, 1) := by decide +kernel
theorem d_X4_heightOn_83 : decode cX4_heightOn 83 = .ok (.getfield 36, 3) := by decide +kernel
theorem d_X4_heightOn_86 : decode cX4_heightOn 86 = .ok (.iload_n 2, 1) := by decide +kernel
theorem d_X4_heightOn_87 : decode cX4_heightOn 87 = .ok (.iaload, 1) := by decide +kernel
theorem d_X4_heightOn_88 : decode cX4_heightOn 88 = .ok (.ireturn, 1) := by decide +kernel
theorem d_X4_heightOn_89 : decode cX4_heightOn 89 = .ok (.aload_n 0, 1) := by decide +kernel
theorem d_X4_heightOn_90 : decode cX4_heightOn 90 = .ok (.getfield 36, 3) := by decide +kernel
theorem d_X4_heightOn_93 : decode cX4_heightOn 93 = .ok (.iload_n 3, 1) := by decide +kernel
theorem d_X4_heightOn_94 : decode cX4_heightOn 94 = .ok (.iaload, 1) := by decide +kernel
theorem d_X4_heightOn_95 : decode cX4_heightOn 95 = .ok (.aload_n 0, 1) := by decide +kernel
theorem d_X4_heightOn_96 : decode cX4_heightOn 96 = .ok (.getfield 36, 3) := by decide +kernel
theorem d_X4_heightOn_99 : decode cX4_heightOn 99 = .ok (.iload_n 2, 1) := by decide +kernel
theorem d_X4_heightOn_100 : decode cX4_heightOn 100 = .ok (.iaload, 1) := by decide +kernel
theorem d_X4_heightOn_101 : decode cX4_heightOn 101 = .ok (.isub, 1) := by decide +kernel
theorem d_X4_heightOn_102 : decode cX4_heightOn 102 = .ok (.istore 4, 2) := by decide +kernel
theorem d_X4_heightOn_104 : decode cX4_heightOn 104 = .ok (.aload_n 0, 1) := by decide +kernel
theorem d_X4_heightOn_105 : decode cX4_heightOn 105 = .ok (.getfield 36, 3) := by decide +kernel
theorem d_X4_heightOn_108 : decode cX4_heightOn 108 = .ok (.iload_n 2, 1) := by decide +kernel
theorem d_X4_heightOn_109 : decode cX4_heightOn 109 = .ok (.iaload, 1) := by decide +kernel
theorem d_X4_heightOn_110 : decode cX4_heightOn 110 = .ok (.iload 4, 2) := by decide +kernel
theorem d_X4_heightOn_112 : decode cX4_heightOn 112 = .ok (.iload_n 1, 1) := by decide +kernel
theorem d_X4_heightOn_113 : decode cX4_heightOn 113 = .ok (.iload_n 2, 1) := by decide +kernel
theorem d_X4_heightOn_114 : decode cX4_heightOn 114 = .ok (.isub, 1) := by decide +kernel
theorem d_X4_heightOn_115 : decode cX4_heightOn 115 = .ok (.imul, 1) := by decide +kernel
theorem d_X4_heightOn_116 : decode cX4_heightOn 116 = .ok (.iload_n 3, 1) := by decide +kernel
theorem d_X4_heightOn_117 : decode cX4_heightOn 117 = .ok (.iload_n 2, 1) := by decide +kernel
theorem d_X4_heightOn_118 : decode cX4_heightOn 118 = .ok (.isub, 1) := by decide +kernel
theorem d_X4_heightOn_119 : decode cX4_heightOn 119 = .ok (.idiv, 1) := by decide +kernel
theorem d_X4_heightOn_120 : decode cX4_heightOn 120 = .ok (.iadd, 1) := by decide +kernel
theorem d_X4_heightOn_121 : decode cX4_heightOn 121 = .ok (.ireturn, 1) := by decide +kernel
theorem d_X4_waterOn_0 : decode cX4_waterOn 0 = .ok (.aload_n 0, 1) := by decide +kernel
theorem d_X4_waterOn_1 : decode cX4_waterOn 1 = .ok (.getfield 46, 3) := by decide +kernel
theorem d_X4_waterOn_4 : decode cX4_waterOn 4 = .ok (.iload_n 1, 1) := by decide +kernel
theorem d_X4_waterOn_5 : decode cX4_waterOn 5 = .ok (.aaload, 1) := by decide +kernel
theorem d_X4_waterOn_6 : decode cX4_waterOn 6 = .ok (.astore_n 3, 1) := by decide +kernel
theorem d_X4_waterOn_7 : decode cX4_waterOn 7 = .ok (.aload_n 3, 1) := by decide +kernel
theorem d_X4_waterOn_8 : decode cX4_waterOn 8 = .ok (.getfield 129, 3) := by decide +kernel
theorem d_X4_waterOn_11 : decode cX4_waterOn 11 = .ok (.iconst 4, 1) := by decide +kernel
theorem d_X4_waterOn_12 : decode cX4_waterOn 12 = .ok (.if_icmp .ne 8, 3) := by decide +kernel
theorem d_X4_waterOn_15 : decode cX4_waterOn 15 = .ok (.aload_n 3, 1) := by decide +kernel
theorem d_X4_waterOn_16 : decode cX4_waterOn 16 = .ok (.getfield 132, 3) := by decide +kernel
theorem d_X4_waterOn_19 : decode cX4_waterOn 19 = .ok (.ireturn, 1) := by decide +kernel
theorem d_X4_waterOn_20 : decode cX4_waterOn 20 = .ok (.aload_n 3, 1) := by decide +kernel
theorem d_X4_waterOn_21 : decode cX4_waterOn 21 = .ok (.getfield 129, 3) := by decide +kernel
theorem d_X4_waterOn_24 : decode cX4_waterOn 24 = .ok (.iconst 5, 1) := by decide +kernel
theorem d_X4_waterOn_25 : decode cX4_waterOn 25 = .ok (.if_icmp .ne 14, 3) := by decide +kernel
theorem d_X4_waterOn_28 : decode cX4_waterOn 28 = .ok (.aload_n 0, 1) := by decide +kernel
theorem d_X4_waterOn_29 : decode cX4_waterOn 29 = .ok (.getfield 40, 3) := by decide +kernel
theorem d_X4_waterOn_32 : decode cX4_waterOn 32 = .ok (.iload_n 2, 1) := by decide +kernel
theorem d_X4_waterOn_33 : decode cX4_waterOn 33 = .ok (.baload, 1) := by decide +kernel
theorem d_X4_waterOn_34 : decode cX4_waterOn 34 = .ok (.ifCond .eq 5, 3) := by decide +kernel
theorem d_X4_waterOn_37 : decode cX4_waterOn 37 = .ok (.iconst 0, 1) := by decide +kernel
theorem d_X4_waterOn_38 : decode cX4_waterOn 38 = .ok (.ireturn, 1) := by decide +kernel
theorem d_X4_waterOn_39 : decode cX4_waterOn 39 = .ok (.aload_n 3, 1) := by decide +kernel
theorem d_X4_waterOn_40 : decode cX4_waterOn 40 = .ok (.getfield 132, 3) := by decide +kernel
theorem d_X4_waterOn_43 : decode cX4_waterOn 43 = .ok (.aload_n 0, 1) := by decide +kernel
theorem d_X4_waterOn_44 : decode cX4_waterOn 44 = .ok (.iload_n 2, 1) := by decide +kernel
theorem d_X4_waterOn_45 : decode cX4_waterOn 45 = .ok (.invokevirtual 135, 3) := by decide +kernel
theorem d_X4_waterOn_48 : decode cX4_waterOn 48 = .ok (.iadd, 1) := by decide +kernel
theorem d_X4_waterOn_49 : decode cX4_waterOn 49 = .ok (.aload_n 3, 1) := by decide +kernel
theorem d_X4_waterOn_50 : decode cX4_waterOn 50 = .ok (.iload_n 2, 1) := by decide +kernel
theorem d_X4_waterOn_51 : decode cX4_waterOn 51 = .ok (.invokevirtual 139, 3) := by decide +kernel
theorem d_X4_waterOn_54 : decode cX4_waterOn 54 = .ok (.isub, 1) := by decide +kernel
theorem d_X4_waterOn_55 : decode cX4_waterOn 55 = .ok (.ireturn, 1) := by decide +kernel
theorem d_X4_longNow_0 : decode cX4_longNow 0 = .ok (.aload_n 0, 1) := by decide +kernel
theorem d_X4_longNow_1 : decode cX4_longNow 1 = .ok (.invokevirtual 142, 3) := by decide +kernel
theorem d_X4_longNow_4 : decode cX4_longNow 4 = .ok (.ifCond .eq 32, 3) := by decide +kernel
theorem d_X4_longNow_7 : decode cX4_longNow 7 = .ok (.aload_n 0, 1) := by decide +kernel
theorem d_X4_longNow_8 : decode cX4_longNow 8 = .ok (.getfield 46, 3) := by decide +kernel
theorem d_X4_longNow_11 : decode cX4_longNow 11 = .ok (.iload_n 1, 1) := by decide +kernel
theorem d_X4_longNow_12 : decode cX4_longNow 12 = .ok (.aaload, 1) := by decide +kernel
theorem d_X4_longNow_13 : decode cX4_longNow 13 = .ok (.getfield 129, 3) := by decide +kernel
theorem d_X4_longNow_16 : decode cX4_longNow 16 = .ok (.iconst 3, 1) := by decide +kernel
theorem d_X4_longNow_17 : decode cX4_longNow 17 = .ok (.if_icmp .ne 19, 3) := by decide +kernel
theorem d_X4_longNow_20 : decode cX4_longNow 20 = .ok (.aload_n 0, 1) := by decide +kernel
theorem d_X4_longNow_21 : decode cX4_longNow 21 = .ok (.getfield 46, 3) := by decide +kernel
theorem d_X4_longNow_24 : decode cX4_longNow 24 = .ok (.iload_n 1, 1) := by decide +kernel
theorem d_X4_longNow_25 : decode cX4_longNow 25 = .ok (.aaload, 1) := by decide +kernel
theorem d_X4_longNow_26 : decode cX4_longNow 26 = .ok (.getfield 146, 3) := by decide +kernel
theorem d_X4_longNow_29 : decode cX4_longNow 29 = .ok (.ifCond .ne 7, 3) := by decide +kernel
theorem d_X4_longNow_32 : decode cX4_longNow 32 = .ok (.iconst 1, 1) := by decide +kernel
theorem d_X4_longNow_33 : decode cX4_longNow 33 = .ok (.goto 4, 3) := by decide +kernel
theorem d_X4_longNow_36 : decode cX4_longNow 36 = .ok (.iconst 0, 1) := by decide +kernel
theorem d_X4_longNow_37 : decode cX4_longNow 37 = .ok (.istore_n 2, 1) := by decide +kernel
theorem d_X4_longNow_38 : decode cX4_longNow 38 = .ok (.aload_n 0, 1) := by decide +kernel
theorem d_X4_longNow_39 : decode cX4_longNow 39 = .ok (.iload_n 1, 1) := by decide +kernel
theorem d_X4_longNow_40 : decode cX4_longNow 40 = .ok (.invokevirtual 150, 3) := by decide +kernel
theorem d_X4_longNow_43 : decode cX4_longNow 43 = .ok (.iload_n 2, 1) := by decide +kernel
theorem d_X4_longNow_44 : decode cX4_longNow 44 = .ok (.ifCond .eq 8, 3) := by decide +kernel
theorem d_X4_longNow_47 : decode cX4_longNow 47 = .ok (.bipush 8, 2) := by decide +kernel
theorem d_X4_longNow_49 : decode cX4_longNow 49 = .ok (.goto 4, 3) := by decide +kernel
theorem d_X4_longNow_52 : decode cX4_longNow 52 = .ok (.iconst 0, 1) := by decide +kernel
theorem d_X4_longNow_53 : decode cX4_longNow 53 = .ok (.iadd, 1) := by decide +kernel
theorem d_X4_longNow_54 : decode cX4_longNow 54 = .ok (.ireturn, 1) := by decide +kernel
theorem d_X4_longByDaylight_0 : decode cX4_longByDaylight 0 = .ok (.aload_n 0, 1) := by decide +kernel
theorem d_X4_longByDaylight_1 : decode cX4_longByDaylight 1 = .ok (.getfield 46, 3) := by decide +kernel
theorem d_X4_longByDaylight_4 : decode cX4_longByDaylight 4 = .ok (.iload_n 1, 1) := by decide +kernel
theorem d_X4_longByDaylight_5 : decode cX4_longByDaylight 5 = .ok (.aaload, 1) := by decide +kernel
theorem d_X4_longByDaylight_6 : decode cX4_longByDaylight 6 = .ok (.astore_n 2, 1) := by decide +kernel
theorem d_X4_longByDaylight_7 : decode cX4_longByDaylight 7 = .ok (.aload_n 2, 1) := by decide +kernel
theorem d_X4_longByDaylight_8 : decode cX4_longByDaylight 8 = .ok (.getfield 129, 3) := by decide +kernel
theorem d_X4_longByDaylight_11 : decode cX4_longByDaylight 11 = .ok (.iconst 4, 1) := by decide +kernel
theorem d_X4_longByDaylight_12 : decode cX4_longByDaylight 12 = .ok (.if_icmp .ne 10, 3) := by decide +kernel
theorem d_X4_longByDaylight_15 : decode cX4_longByDaylight 15 = .ok (.aload_n 2, 1) := by decide +kernel
theorem d_X4_longByDaylight_16 : decode cX4_longByDaylight 16 = .ok (.getfield 153, 3) := by decide +kernel
theorem d_X4_longByDaylight_19 : decode cX4_longByDaylight 19 = .ok (.iconst 4, 1) := by decide +kernel
theorem d_X4_longByDaylight_20 : decode cX4_longByDaylight 20 = .ok (.iadd, 1) := by decide +kernel
theorem d_X4_longByDaylight_21 : decode cX4_longByDaylight 21 = .ok (.ireturn, 1) := by decide +kernel
theorem d_X4_longByDaylight_22 : decode cX4_longByDaylight 22 = .ok (.aload_n 2, 1) := by decide +kernel
theorem d_X4_longByDaylight_23 : decode cX4_longByDaylight 23 = .ok (.getfield 129, 3) := by decide +kernel
theorem d_X4_longByDaylight_26 : decode cX4_longByDaylight 26 = .ok (.iconst 2, 1) := by decide +kernel
theorem d_X4_longByDaylight_27 : decode cX4_longByDaylight 27 = .ok (.if_icmp .ne 25, 3) := by decide +kernel
theorem d_X4_longByDaylight_30 : decode cX4_longByDaylight 30 = .ok (.aload_n 0, 1) := by decide +kernel
theorem d_X4_longByDaylight_31 : decode cX4_longByDaylight 31 = .ok (.aload_n 0, 1) := by decide +kernel
theorem d_X4_longByDaylight_32 : decode cX4_longByDaylight 32 = .ok (.invokevirtual 156, 3) := by decide +kernel
theorem d_X4_longByDaylight_35 : decode cX4_longByDaylight 35 = .ok (.invokevirtual 135, 3) := by decide +kernel
theorem d_X4_longByDaylight_38 : decode cX4_longByDaylight 38 = .ok (.bipush 20, 2) := by decide +kernel
theorem d_X4_longByDaylight_40 : decode cX4_longByDaylight 40 = .ok (.if_icmp .lt 12, 3) := by decide +kernel
theorem d_X4_longByDaylight_43 : decode cX4_longByDaylight 43 = .ok (.aload_n 2, 1) := by decide +kernel
theorem d_X4_longByDaylight_44 : decode cX4_longByDaylight 44 = .ok (.getfield 153, 3) := by decide +kernel
theorem d_X4_longByDaylight_47 : decode cX4_longByDaylight 47 = .ok (.iconst 1, 1) := by decide +kernel
theorem d_X4_longByDaylight_48 : decode cX4_longByDaylight 48 = .ok (.iadd, 1) := by decide +kernel
theorem d_X4_longByDaylight_49 : decode cX4_longByDaylight 49 = .ok (.iconst 2, 1) := by decide +kernel
theorem d_X4_longByDaylight_50 : decode cX4_longByDaylight 50 = .ok (.idiv, 1) := by decide +kernel
theorem d_X4_longByDaylight_51 : decode cX4_longByDaylight 51 = .ok (.ireturn, 1) := by decide +kernel
theorem d_X4_longByDaylight_52 : decode cX4_longByDaylight 52 = .ok (.aload_n 2, 1) := by decide +kernel
theorem d_X4_longByDaylight_53 : decode cX4_longByDaylight 53 = .ok (.getfield 153, 3) := by decide +kernel
theorem d_X4_longByDaylight_56 : decode cX4_longByDaylight 56 = .ok (.ireturn, 1) := by decide +kernel
theorem d_X4_whyNot_0 : decode cX4_whyNot 0 = .ok (.aload_n 1, 1) := by decide +kernel
theorem d_X4_whyNot_1 : decode cX4_whyNot 1 = .ok (.getfield 160, 3) := by decide +kernel
theorem d_X4_whyNot_4 : decode cX4_whyNot 4 = .ok (.ifCond .eq 5, 3) := by decide +kernel
theorem d_X4_whyNot_7 : decode cX4_whyNot 7 = .ok (.iconst 1, 1) := by decide +kernel
theorem d_X4_whyNot_8 : decode cX4_whyNot 8 = .ok (.ireturn, 1) := by decide +kernel
theorem d_X4_whyNot_9 : decode cX4_whyNot 9 = .ok (.aload_n 1, 1) := by decide +kernel
theorem d_X4_whyNot_10 : decode cX4_whyNot 10 = .ok (.iload_n 2, 1) := by decide +kernel
theorem d_X4_whyNot_11 : decode cX4_whyNot 11 = .ok (.invokevirtual 163, 3) := by decide +kernel
theorem d_X4_whyNot_14 : decode cX4_whyNot 14 = .ok (.istore_n 3, 1) := by decide +kernel
theorem d_X4_whyNot_15 : decode cX4_whyNot 15 = .ok (.aload_n 0, 1) := by decide +kernel
theorem d_X4_whyNot_16 : decode cX4_whyNot 16 = .ok (.iload_n 3, 1) := by decide +kernel
theorem d_X4_whyNot_17 : decode cX4_whyNot 17 = .ok (.invokevirtual 167, 3) := by decide +kernel
theorem d_X4_whyNot_20 : decode cX4_whyNot 20 = .ok (.ifCond .ne 5, 3) := by decide +kernel
theorem d_X4_whyNot_23 : decode cX4_whyNot 23 = .ok (.iconst 2, 1) := by decide +kernel
theorem d_X4_whyNot_24 : decode cX4_whyNot 24 = .ok (.ireturn, 1) := by decide +kernel
theorem d_X4_whyNot_25 : decode cX4_whyNot 25 = .ok (.aload_n 1, 1) := by decide +kernel
theorem d_X4_whyNot_26 : decode cX4_whyNot 26 = .ok (.getfield 170, 3) := by decide +kernel
theorem d_X4_whyNot_29 : decode cX4_whyNot 29 = .ok (.iload_n 3, 1) := by decide +kernel
theorem d_X4_whyNot_30 : decode cX4_whyNot 30 = .ok (.invokevirtual 174, 3) := by decide +kernel
theorem d_X4_whyNot_33 : decode cX4_whyNot 33 = .ok (.ifCond .eq 21, 3) := by decide +kernel
theorem d_X4_whyNot_36 : decode cX4_whyNot 36 = .ok (.aload_n 1, 1) := by decide +kernel
theorem d_X4_whyNot_37 : decode cX4_whyNot 37 = .ok (.getfield 170, 3) := by decide +kernel
theorem d_X4_whyNot_40 : decode cX4_whyNot 40 = .ok (.getfield 179, 3) := by decide +kernel
theorem d_X4_whyNot_43 : decode cX4_whyNot 43 = .ok (.iload_n 3, 1) := by decide +kernel
theorem d_X4_whyNot_44 : decode cX4_whyNot 44 = .ok (.iaload, 1) := by decide +kernel
theorem d_X4_whyNot_45 : decode cX4_whyNot 45 = .ok (.aload_n 1, 1) := by decide +kernel
theorem d_X4_whyNot_46 : decode cX4_whyNot 46 = .ok (.invokevirtual 182, 3) := by decide +kernel
theorem d_X4_whyNot_49 : decode cX4_whyNot 49 = .ok (.if_icmp .ge 5, 3) := by decide +kernel
theorem d_X4_whyNot_52 : decode cX4_whyNot 52 = .ok (.iconst 3, 1) := by decide +kernel
theorem d_X4_whyNot_53 : decode cX4_whyNot 53 = .ok (.ireturn, 1) := by decide +kernel
theorem d_X4_whyNot_54 : decode cX4_whyNot 54 = .ok (.aload_n 1, 1) := by decide +kernel
theorem d_X4_whyNot_55 : decode cX4_whyNot 55 = .ok (.getfield 185, 3) := by decide +kernel
theorem d_X4_whyNot_58 : decode cX4_whyNot 58 = .ok (.aload_n 0, 1) := by decide +kernel
theorem d_X4_whyNot_59 : decode cX4_whyNot 59 = .ok (.iload_n 3, 1) := by decide +kernel
theorem d_X4_whyNot_60 : decode cX4_whyNot 60 = .ok (.invokevirtual 188, 3) := by decide +kernel
theorem d_X4_whyNot_63 : decode cX4_whyNot 63 = .ok (.if_icmp .ge 7, 3) := by decide +kernel
theorem d_X4_whyNot_66 : decode cX4_whyNot 66 = .ok (.iconst 4, 1) := by decide +kernel
theorem d_X4_whyNot_67 : decode cX4_whyNot 67 = .ok (.goto 4, 3) := by decide +kernel
theorem d_X4_whyNot_70 : decode cX4_whyNot 70 = .ok (.iconst 0, 1) := by decide +kernel
theorem d_X4_whyNot_71 : decode cX4_whyNot 71 = .ok (.ireturn, 1) := by decide +kernel
theorem d_X4_setOut_0 : decode cX4_setOut 0 = .ok (.aload_n 1, 1) := by decide +kernel
theorem d_X4_setOut_1 : decode cX4_setOut 1 = .ok (.iload_n 2, 1) := by decide +kernel
theorem d_X4_setOut_2 : decode cX4_setOut 2 = .ok (.invokevirtual 163, 3) := by decide +kernel
theorem d_X4_setOut_5 : decode cX4_setOut 5 = .ok (.istore_n 3, 1) := by decide +kernel
theorem d_X4_setOut_6 : decode cX4_setOut 6 = .ok (.aload_n 0, 1) := by decide +kernel
theorem d_X4_setOut_7 : decode cX4_setOut 7 = .ok (.iload_n 3, 1) := by decide +kernel
theorem d_X4_setOut_8 : decode cX4_setOut 8 = .ok (.aload_n 0, 1) := by decide +kernel
theorem d_X4_setOut_9 : decode cX4_setOut 9 = .ok (.invokevirtual 156, 3) := by decide +kernel
theorem d_X4_setOut_12 : decode cX4_setOut 12 = .ok (.invokevirtual 191, 3) := by decide +kernel
theorem d_X4_setOut_15 : decode cX4_setOut 15 = .ok (.istore 4, 2) := by decide +kernel
theorem d_X4_setOut_17 : decode cX4_setOut 17 = .ok (.aload_n 1, 1) := by decide +kernel
theorem d_X4_setOut_18 : decode cX4_setOut 18 = .ok (.getfield 170, 3) := by decide +kernel
theorem d_X4_setOut_21 : decode cX4_setOut 21 = .ok (.iload_n 3, 1) := by decide +kernel
theorem d_X4_setOut_22 : decode cX4_setOut 22 = .ok (.iload 4, 2) := by decide +kernel
theorem d_X4_setOut_24 : decode cX4_setOut 24 = .ok (.aload_n 0, 1) := by decide +kernel
theorem d_X4_setOut_25 : decode cX4_setOut 25 = .ok (.getfield 9, 3) := by decide +kernel
theorem d_X4_setOut_28 : decode cX4_setOut 28 = .ok (.invokevirtual 195, 3) := by decide +kernel
theorem d_X4_setOut_31 : decode cX4_setOut 31 = .ok (.aload_n 1, 1) := by decide +kernel
theorem d_X4_setOut_32 : decode cX4_setOut 32 = .ok (.aload_n 1, 1) := by decide +kernel
theorem d_X4_setOut_33 : decode cX4_setOut 33 = .ok (.getfield 199, 3) := by decide +kernel
theorem d_X4_setOut_36 : decode cX4_setOut 36 = .ok (.putfield 202, 3) := by decide +kernel
theorem d_X4_setOut_39 : decode cX4_setOut 39 = .ok (.aload_n 1, 1) := by decide +kernel
theorem d_X4_setOut_40 : decode cX4_setOut 40 = .ok (.iload_n 3, 1) := by decide +kernel
theorem d_X4_setOut_41 : decode cX4_setOut 41 = .ok (.putfield 199, 3) := by decide +kernel
theorem d_X4_setOut_44 : decode cX4_setOut 44 = .ok (.aload_n 1, 1) := by decide +kernel
theorem d_X4_setOut_45 : decode cX4_setOut 45 = .ok (.invokevirtual 182, 3) := by decide +kernel
theorem d_X4_setOut_48 : decode cX4_setOut 48 = .ok (.iload 4, 2) := by decide +kernel
theorem d_X4_setOut_50 : decode cX4_setOut 50 = .ok (.if_icmp .le 10, 3) := by decide +kernel
theorem d_X4_setOut_53 : decode cX4_setOut 53 = .ok (.aload_n 1, 1) := by decide +kernel
theorem d_X4_setOut_54 : decode cX4_setOut 54 = .ok (.iconst 3, 1) := by decide +kernel
theorem d_X4_setOut_55 : decode cX4_setOut 55 = .ok (.putfield 160, 3) := by decide +kernel
theorem d_X4_setOut_58 : decode cX4_setOut 58 = .ok (.iconst 0, 1) := by decide +kernel
theorem d_X4_setOut_59 : decode cX4_setOut 59 = .ok (.ireturn, 1) := by decide +kernel
theorem d_X4_setOut_60 : decode cX4_setOut 60 = .ok (.aload_n 0, 1) := by decide +kernel
theorem d_X4_setOut_61 : decode cX4_setOut 61 = .ok (.iload_n 3, 1) := by decide +kernel
theorem d_X4_setOut_62 : decode cX4_setOut 62 = .ok (.invokevirtual 188, 3) := by decide +kernel
theorem d_X4_setOut_65 : decode cX4_setOut 65 = .ok (.istore 5, 2) := by decide +kernel
theorem d_X4_setOut_67 : decode cX4_setOut 67 = .ok (.aload_n 1, 1) := by decide +kernel
theorem d_X4_setOut_68 : decode cX4_setOut 68 = .ok (.iload_n 2, 1) := by decide +kernel
theorem d_X4_setOut_69 : decode cX4_setOut 69 = .ok (.ifCond .eq 7, 3) := by decide +kernel
theorem d_X4_setOut_72 : decode cX4_setOut 72 = .ok (.iconst 1, 1) := by decide +kernel
theorem d_X4_setOut_73 : decode cX4_setOut 73 = .ok (.goto 4, 3) := by decide +kernel
theorem d_X4_setOut_76 : decode cX4_setOut 76 = .ok (.iconst 2, 1) := by decide +kernel
theorem d_X4_setOut_77 : decode cX4_setOut 77 = .ok (.putfield 160, 3) := by decide +kernel
theorem d_X4_setOut_80 : decode cX4_setOut 80 = .ok (.aload_n 1, 1) := by decide +kernel
theorem d_X4_setOut_81 : decode cX4_setOut 81 = .ok (.aload_n 0, 1) := by decide +kernel
theorem d_X4_setOut_82 : decode cX4_setOut 82 = .ok (.getfield 9, 3) := by decide +kernel
theorem d_X4_setOut_85 : decode cX4_setOut 85 = .ok (.iload 5, 2) := by decide +kernel
theorem d_X4_setOut_87 : decode cX4_setOut 87 = .ok (.iadd, 1) := by decide +kernel
theorem d_X4_setOut_88 : decode cX4_setOut 88 = .ok (.putfield 205, 3) := by decide +kernel
theorem d_X4_setOut_91 : decode cX4_setOut 91 = .ok (.aload_n 1, 1) := by decide +kernel
theorem d_X4_setOut_92 : decode cX4_setOut 92 = .ok (.dup, 1) := by decide +kernel
theorem d_X4_setOut_93 : decode cX4_setOut 93 = .ok (.getfield 185, 3) := by decide +kernel
theorem d_X4_setOut_96 : decode cX4_setOut 96 = .ok (.iload 5, 2) := by decide +kernel
theorem d_X4_setOut_98 : decode cX4_setOut 98 = .ok (.isub, 1) := by decide +kernel
theorem d_X4_setOut_99 : decode cX4_setOut 99 = .ok (.putfield 185, 3) := by decide +kernel
theorem d_X4_setOut_102 : decode cX4_setOut 102 = .ok (.iload 5, 2) := by decide +kernel
theorem d_X4_setOut_104 : decode cX4_setOut 104 = .ok (.ireturn, 1) := by decide +kernel
theorem d_X4_goOneQuarter_0 : decode cX4_goOneQuarter 0 = .ok (.aload_n 0, 1) := by decide +kernel
theorem d_X4_goOneQuarter_1 : decode cX4_goOneQuarter 1 = .ok (.dup, 1) := by decide +kernel
theorem d_X4_goOneQuarter_2 : decode cX4_goOneQuarter 2 = .ok (.getfield 9, 3) := by decide +kernel
theorem d_X4_goOneQuarter_5 : decode cX4_goOneQuarter 5 = .ok (.iconst 1, 1) := by decide +kernel
theorem d_X4_goOneQuarter_6 : decode cX4_goOneQuarter 6 = .ok (.iadd, 1) := by decide +kernel
theorem d_X4_goOneQuarter_7 : decode cX4_goOneQuarter 7 = .ok (.putfield 9, 3) := by decide +kernel
theorem d_X4_goOneQuarter_10 : decode cX4_goOneQuarter 10 = .ok (.iconst 0, 1) := by decide +kernel
theorem d_X4_goOneQuarter_11 : decode cX4_goOneQuarter 11 = .ok (.istore_n 1, 1) := by decide +kernel
theorem d_X4_goOneQuarter_12 : decode cX4_goOneQuarter 12 = .ok (.iload_n 1, 1) := by decide +kernel
theorem d_X4_goOneQuarter_13 : decode cX4_goOneQuarter 13 = .ok (.aload_n 0, 1) := by decide +kernel
theorem d_X4_goOneQuarter_14 : decode cX4_goOneQuarter 14 = .ok (.getfield 18, 3) := by decide +kernel
theorem d_X4_goOneQuarter_17 : decode cX4_goOneQuarter 17 = .ok (.if_icmp .ge 60, 3) := by decide +kernel
theorem d_X4_goOneQuarter_20 : decode cX4_goOneQuarter 20 = .ok (.aload_n 0, 1) := by decide +kernel
theorem d_X4_goOneQuarter_21 : decode cX4_goOneQuarter 21 = .ok (.getfield 58, 3) := by decide +kernel
theorem d_X4_goOneQuarter_24 : decode cX4_goOneQuarter 24 = .ok (.iload_n 1, 1) := by decide +kernel
theorem d_X4_goOneQuarter_25 : decode cX4_goOneQuarter 25 = .ok (.aaload, 1) := by decide +kernel
theorem d_X4_goOneQuarter_26 : decode cX4_goOneQuarter 26 = .ok (.astore_n 2, 1) := by decide +kernel
theorem d_X4_goOneQuarter_27 : decode cX4_goOneQuarter 27 = .ok (.aload_n 2, 1) := by decide +kernel
theorem d_X4_goOneQuarter_28 : decode cX4_goOneQuarter 28 = .ok (.invokevirtual 208, 3) := by decide +kernel
theorem d_X4_goOneQuarter_31 : decode cX4_goOneQuarter 31 = .ok (.ifCond .eq 40, 3) := by decide +kernel
theorem d_X4_goOneQuarter_34 : decode cX4_goOneQuarter 34 = .ok (.aload_n 2, 1) := by decide +kernel
theorem d_X4_goOneQuarter_35 : decode cX4_goOneQuarter 35 = .ok (.getfield 205, 3) := by decide +kernel
theorem d_X4_goOneQuarter_38 : decode cX4_goOneQuarter 38 = .ok (.aload_n 0, 1) := by decide +kernel
theorem d_X4_goOneQuarter_39 : decode cX4_goOneQuarter 39 = .ok (.getfield 9, 3) := by decide +kernel
theorem d_X4_goOneQuarter_42 : decode cX4_goOneQuarter 42 = .ok (.if_icmp .ne 29, 3) := by decide +kernel
theorem d_X4_goOneQuarter_45 : decode cX4_goOneQuarter 45 = .ok (.aload_n 0, 1) := by decide +kernel
theorem d_X4_goOneQuarter_46 : decode cX4_goOneQuarter 46 = .ok (.aload_n 2, 1) := by decide +kernel
theorem d_X4_goOneQuarter_47 : decode cX4_goOneQuarter 47 = .ok (.aload_n 2, 1) := by decide +kernel
theorem d_X4_goOneQuarter_48 : decode cX4_goOneQuarter 48 = .ok (.getfield 160, 3) := by decide +kernel
theorem d_X4_goOneQuarter_51 : decode cX4_goOneQuarter 51 = .ok (.iconst 1, 1) := by decide +kernel
theorem d_X4_goOneQuarter_52 : decode cX4_goOneQuarter 52 = .ok (.if_icmp .ne 12, 3) := by decide +kernel
theorem d_X4_goOneQuarter_55 : decode cX4_goOneQuarter 55 = .ok (.aload_n 2, 1) := by decide +kernel
theorem d_X4_goOneQuarter_56 : decode cX4_goOneQuarter 56 = .ok (.getfield 199, 3) := by decide +kernel
theorem d_X4_goOneQuarter_59 : decode cX4_goOneQuarter 59 = .ok (.iconst 1, 1) := by decide +kernel
theorem d_X4_goOneQuarter_60 : decode cX4_goOneQuarter 60 = .ok (.iadd, 1) := by decide +kernel
theorem d_X4_goOneQuarter_61 : decode cX4_goOneQuarter 61 = .ok (.goto 7, 3) := by decide +kernel
theorem d_X4_goOneQuarter_64 : decode cX4_goOneQuarter 64 = .ok (.aload_n 2, 1) := by decide +kernel
theorem d_X4_goOneQuarter_65 : decode cX4_goOneQuarter 65 = .ok (.getfield 199, 3) := by decide +kernel
theorem d_X4_goOneQuarter_68 : decode cX4_goOneQuarter 68 = .ok (.invokevirtual 211, 3) := by decide +kernel
theorem d_X4_goOneQuarter_71 : decode cX4_goOneQuarter 71 = .ok (.iinc 1 1, 3) := by decide +kernel
theorem d_X4_goOneQuarter_74 : decode cX4_goOneQuarter 74 = .ok (.goto (-62), 3) := by decide +kernel
theorem d_X4_goOneQuarter_77 : decode cX4_goOneQuarter 77 = .ok (.return_, 1) := by decide +kernel
theorem d_X4_comeTo_0 : decode cX4_comeTo 0 = .ok (.aload_n 1, 1) := by decide +kernel
theorem d_X4_comeTo_1 : decode cX4_comeTo 1 = .ok (.iconst 0, 1) := by decide +kernel
theorem d_X4_comeTo_2 : decode cX4_comeTo 2 = .ok (.putfield 160, 3) := by decide +kernel
theorem d_X4_comeTo_5 : decode cX4_comeTo 5 = .ok (.aload_n 1, 1) := by decide +kernel
theorem d_X4_comeTo_6 : decode cX4_comeTo 6 = .ok (.iload_n 2, 1) := by decide +kernel
theorem d_X4_comeTo_7 : decode cX4_comeTo 7 = .ok (.putfield 199, 3) := by decide +kernel
theorem d_X4_comeTo_10 : decode cX4_comeTo 10 = .ok (.aload_n 1, 1) := by decide +kernel
theorem d_X4_comeTo_11 : decode cX4_comeTo 11 = .ok (.getfield 170, 3) := by decide +kernel
theorem d_X4_comeTo_14 : decode cX4_comeTo 14 = .ok (.aload_n 0, 1) := by decide +kernel
theorem d_X4_comeTo_15 : decode cX4_comeTo 15 = .ok (.getfield 52, 3) := by decide +kernel
theorem d_X4_comeTo_18 : decode cX4_comeTo 18 = .ok (.iload_n 2, 1) := by decide +kernel
theorem d_X4_comeTo_19 : decode cX4_comeTo 19 = .ok (.aaload, 1) := by decide +kernel
theorem d_X4_comeTo_20 : decode cX4_comeTo 20 = .ok (.getfield 215, 3) := by decide +kernel
theorem d_X4_comeTo_23 : decode cX4_comeTo 23 = .ok (.invokevirtual 216, 3) := by decide +kernel
theorem d_X4_comeTo_26 : decode cX4_comeTo 26 = .ok (.return_, 1) := by decide +kernel
theorem d_X4_carrierOf_0 : decode cX4_carrierOf 0 = .ok (.aload_n 1, 1) := by decide +kernel
theorem d_X4_carrierOf_1 : decode cX4_carrierOf 1 = .ok (.getfield 220, 3) := by decide +kernel
theorem d_X4_carrierOf_4 : decode cX4_carrierOf 4 = .ok (.iconst 1, 1) := by decide +kernel
theorem d_X4_carrierOf_5 : decode cX4_carrierOf 5 = .ok (.if_icmp .ne 26, 3) := by decide +kernel
theorem d_X4_carrierOf_8 : decode cX4_carrierOf 8 = .ok (.aload_n 0, 1) := by decide +kernel
theorem d_X4_carrierOf_9 : decode cX4_carrierOf 9 = .ok (.aload_n 1, 1) := by decide +kernel
theorem d_X4_carrierOf_10 : decode cX4_carrierOf 10 = .ok (.getfield 221, 3) := by decide +kernel
theorem d_X4_carrierOf_13 : decode cX4_carrierOf 13 = .ok (.invokevirtual 222, 3) := by decide +kernel
theorem d_X4_carrierOf_16 : decode cX4_carrierOf 16 = .ok (.ifCond .eq 15, 3) := by decide +kernel
theorem d_X4_carrierOf_19 : decode cX4_carrierOf 19 = .ok (.aload_n 0, 1) := by decide +kernel
theorem d_X4_carrierOf_20 : decode cX4_carrierOf 20 = .ok (.getfield 58, 3) := by decide +kernel
theorem d_X4_carrierOf_23 : decode cX4_carrierOf 23 = .ok (.aload_n 1, 1) := by decide +kernel
theorem d_X4_carrierOf_24 : decode cX4_carrierOf 24 = .ok (.getfield 221, 3) := by decide +kernel
theorem d_X4_carrierOf_27 : decode cX4_carrierOf 27 = .ok (.aaload, 1) := by decide +kernel
theorem d_X4_carrierOf_28 : decode cX4_carrierOf 28 = .ok (.goto 4, 3) := by decide +kernel
theorem d_X4_carrierOf_31 : decode cX4_carrierOf 31 = .ok (.aconst_null, 1) := by decide +kernel
theorem d_X4_carrierOf_32 : decode cX4_carrierOf 32 = .ok (.areturn, 1) := by decide +kernel
theorem d_X4_boatsAground_0 : decode cX4_boatsAground 0 = .ok (.iconst 0, 1) := by decide +kernel
theorem d_X4_boatsAground_1 : decode cX4_boatsAground 1 = .ok (.istore_n 1, 1) := by decide +kernel
theorem d_X4_boatsAground_2 : decode cX4_boatsAground 2 = .ok (.iconst 0, 1) := by decide +kernel
theorem d_X4_boatsAground_3 : decode cX4_boatsAground 3 = .ok (.istore_n 2, 1) := by decide +kernel
theorem d_X4_boatsAground_4 : decode cX4_boatsAground 4 = .ok (.iload_n 2, 1) := by decide +kernel
theorem d_X4_boatsAground_5 : decode cX4_boatsAground 5 = .ok (.aload_n 0, 1) := by decide +kernel
theorem d_X4_boatsAground_6 : decode cX4_boatsAground 6 = .ok (.getfield 18, 3) := by decide +kernel
theorem d_X4_boatsAground_9 : decode cX4_boatsAground 9 = .ok (.if_icmp .ge 30, 3) := by decide +kernel
theorem d_X4_boatsAground_12 : decode cX4_boatsAground 12 = .ok (.iload_n 1, 1) := by decide +kernel
theorem d_X4_boatsAground_13 : decode cX4_boatsAground 13 = .ok (.aload_n 0, 1) := by decide +kernel
theorem d_X4_boatsAground_14 : decode cX4_boatsAground 14 = .ok (.getfield 58, 3) := by decide +kernel
theorem d_X4_boatsAground_17 : decode cX4_boatsAground 17 = .ok (.iload_n 2, 1) := by decide +kernel
theorem d_X4_boatsAground_18 : decode cX4_boatsAground 18 = .ok (.aaload, 1) := by decide +kernel
theorem d_X4_boatsAground_19 : decode cX4_boatsAground 19 = .ok (.getfield 160, 3) := by decide +kernel
theorem d_X4_boatsAground_22 : decode cX4_boatsAground 22 = .ok (.iconst 3, 1) := by decide +kernel
theorem d_X4_boatsAground_23 : decode cX4_boatsAground 23 = .ok (.if_icmp .ne 7, 3) := by decide +kernel
theorem d_X4_boatsAground_26 : decode cX4_boatsAground 26 = .ok (.iconst 1, 1) := by decide +kernel
theorem d_X4_boatsAground_27 : decode cX4_boatsAground 27 = .ok (.goto 4, 3) := by decide +kernel
theorem d_X4_boatsAground_30 : decode cX4_boatsAground 30 = .ok (.iconst 0, 1) := by decide +kernel
theorem d_X4_boatsAground_31 : decode cX4_boatsAground 31 = .ok (.iadd, 1) := by decide +kernel
theorem d_X4_boatsAground_32 : decode cX4_boatsAground 32 = .ok (.istore_n 1, 1) := by decide +kernel
theorem d_X4_boatsAground_33 : decode cX4_boatsAground 33 = .ok (.iinc 2 1, 3) := by decide +kernel
theorem d_X4_boatsAground_36 : decode cX4_boatsAground 36 = .ok (.goto (-32), 3) := by decide +kernel
theorem d_X4_boatsAground_39 : decode cX4_boatsAground 39 = .ok (.iload_n 1, 1) := by decide +kernel
theorem d_X4_boatsAground_40 : decode cX4_boatsAground 40 = .ok (.ireturn, 1) := by decide +kernel
theorem d_X4_darkCrossings_0 : decode cX4_darkCrossings 0 = .ok (.iconst 0, 1) := by decide +kernel
theorem d_X4_darkCrossings_1 : decode cX4_darkCrossings 1 = .ok (.istore_n 1, 1) := by decide +kernel
theorem d_X4_darkCrossings_2 : decode cX4_darkCrossings 2 = .ok (.iconst 0, 1) := by decide +kernel
theorem d_X4_darkCrossings_3 : decode cX4_darkCrossings 3 = .ok (.istore_n 2, 1) := by decide +kernel
theorem d_X4_darkCrossings_4 : decode cX4_darkCrossings 4 = .ok (.iload_n 2, 1) := by decide +kernel
theorem d_X4_darkCrossings_5 : decode cX4_darkCrossings 5 = .ok (.aload_n 0, 1) := by decide +kernel
theorem d_X4_darkCrossings_6 : decode cX4_darkCrossings 6 = .ok (.getfield 15, 3) := by decide +kernel
theorem d_X4_darkCrossings_9 : decode cX4_darkCrossings 9 = .ok (.if_icmp .ge 54, 3) := by decide +kernel
theorem d_X4_darkCrossings_12 : decode cX4_darkCrossings 12 = .ok (.aload_n 0, 1) := by decide +kernel
theorem d_X4_darkCrossings_13 : decode cX4_darkCrossings 13 = .ok (.getfield 46, 3) := by decide +kernel
theorem d_X4_darkCrossings_16 : decode cX4_darkCrossings 16 = .ok (.iload_n 2, 1) := by decide +kernel
theorem d_X4_darkCrossings_17 : decode cX4_darkCrossings 17 = .ok (.aaload, 1) := by decide +kernel
theorem d_X4_darkCrossings_18 : decode cX4_darkCrossings 18 = .ok (.getfield 129, 3) := by decide +kernel
theorem d_X4_darkCrossings_21 : decode cX4_darkCrossings 21 = .ok (.iconst 3, 1) := by decide +kernel
theorem d_X4_darkCrossings_22 : decode cX4_darkCrossings 22 = .ok (.if_icmp .ne 19, 3) := by decide +kernel
theorem d_X4_darkCrossings_25 : decode cX4_darkCrossings 25 = .ok (.aload_n 0, 1) := by decide +kernel
theorem d_X4_darkCrossings_26 : decode cX4_darkCrossings 26 = .ok (.getfield 46, 3) := by decide +kernel
theorem d_X4_darkCrossings_29 : decode cX4_darkCrossings 29 = .ok (.iload_n 2, 1) := by decide +kernel
theorem d_X4_darkCrossings_30 : decode cX4_darkCrossings 30 = .ok (.aaload, 1) := by decide +kernel
theorem d_X4_darkCrossings_31 : decode cX4_darkCrossings 31 = .ok (.getfield 146, 3) := by decide +kernel
theorem d_X4_darkCrossings_34 : decode cX4_darkCrossings 34 = .ok (.ifCond .ne 7, 3) := by decide +kernel
theorem d_X4_darkCrossings_37 : decode cX4_darkCrossings 37 = .ok (.iconst 1, 1) := by decide +kernel
theorem d_X4_darkCrossings_38 : decode cX4_darkCrossings 38 = .ok (.goto 4, 3) := by decide +kernel
theorem d_X4_darkCrossings_41 : decode cX4_darkCrossings 41 = .ok (.iconst 0, 1) := by decide +kernel
theorem d_X4_darkCrossings_42 : decode cX4_darkCrossings 42 = .ok (.istore_n 3, 1) := by decide +kernel
theorem d_X4_darkCrossings_43 : decode cX4_darkCrossings 43 = .ok (.iload_n 1, 1) := by decide +kernel
theorem d_X4_darkCrossings_44 : decode cX4_darkCrossings 44 = .ok (.iload_n 3, 1) := by decide +kernel
theorem d_X4_darkCrossings_45 : decode cX4_darkCrossings 45 = .ok (.ifCond .eq 9, 3) := by decide +kernel
theorem d_X4_darkCrossings_48 : decode cX4_darkCrossings 48 = .ok (.iconst 1, 1) := by decide +kernel
theorem d_X4_darkCrossings_49 : decode cX4_darkCrossings 49 = .ok (.iload_n 2, 1) := by decide +kernel
theorem d_X4_darkCrossings_50 : decode cX4_darkCrossings 50 = .ok (.ishl, 1) := by decide +kernel
theorem d_X4_darkCrossings_51 : decode cX4_darkCrossings 51 = .ok (.goto 4, 3) := by decide +kernel
theorem d_X4_darkCrossings_54 : decode cX4_darkCrossings 54 = .ok (.iconst 0, 1) := by decide +kernel
theorem d_X4_darkCrossings_55 : decode cX4_darkCrossings 55 = .ok (.ior, 1) := by decide +kernel
theorem d_X4_darkCrossings_56 : decode cX4_darkCrossings 56 = .ok (.istore_n 1, 1) := by decide +kernel
theorem d_X4_darkCrossings_57 : decode cX4_darkCrossings 57 = .ok (.iinc 2 1, 3) := by decide +kernel
theorem d_X4_darkCrossings_60 : decode cX4_darkCrossings 60 = .ok (.goto (-56), 3) := by decide +kernel
theorem d_X4_darkCrossings_63 : decode cX4_darkCrossings 63 = .ok (.iload_n 1, 1) := by decide +kernel
theorem d_X4_darkCrossings_64 : decode cX4_darkCrossings 64 = .ok (.ireturn, 1) := by decide +kernel
theorem d_X4_tripsBear_0 : decode cX4_tripsBear 0 = .ok (.iconst 0, 1) := by decide +kernel
theorem d_X4_tripsBear_1 : decode cX4_tripsBear 1 = .ok (.istore_n 2, 1) := by decide +kernel
theorem d_X4_tripsBear_2 : decode cX4_tripsBear 2 = .ok (.iload_n 2, 1) := by decide +kernel
theorem d_X4_tripsBear_3 : decode cX4_tripsBear 3 = .ok (.aload_n 0, 1) := by decide +kernel
theorem d_X4_tripsBear_4 : decode cX4_tripsBear 4 = .ok (.getfield 24, 3) := by decide +kernel
theorem d_X4_tripsBear_7 : decode cX4_tripsBear 7 = .ok (.if_icmp .ge 37, 3) := by decide +kernel
theorem d_X4_tripsBear_10 : decode cX4_tripsBear 10 = .ok (.iload_n 1, 1) := by decide +kernel
theorem d_X4_tripsBear_11 : decode cX4_tripsBear 11 = .ok (.aload_n 0, 1) := by decide +kernel
theorem d_X4_tripsBear_12 : decode cX4_tripsBear 12 = .ok (.getfield 70, 3) := by decide +kernel
theorem d_X4_tripsBear_15 : decode cX4_tripsBear 15 = .ok (.iload_n 2, 1) := by decide +kernel
theorem d_X4_tripsBear_16 : decode cX4_tripsBear 16 = .ok (.aaload, 1) := by decide +kernel
theorem d_X4_tripsBear_17 : decode cX4_tripsBear 17 = .ok (.invokevirtual 225, 3) := by decide +kernel
theorem d_X4_tripsBear_20 : decode cX4_tripsBear 20 = .ok (.iand, 1) := by decide +kernel
theorem d_X4_tripsBear_21 : decode cX4_tripsBear 21 = .ok (.invokestatic 228, 3) := by decide +kernel
theorem d_X4_tripsBear_24 : decode cX4_tripsBear 24 = .ok (.aload_n 0, 1) := by decide +kernel
theorem d_X4_tripsBear_25 : decode cX4_tripsBear 25 = .ok (.getfield 70, 3) := by decide +kernel
theorem d_X4_tripsBear_28 : decode cX4_tripsBear 28 = .ok (.iload_n 2, 1) := by decide +kernel
theorem d_X4_tripsBear_29 : decode cX4_tripsBear 29 = .ok (.aaload, 1) := by decide +kernel
theorem d_X4_tripsBear_30 : decode cX4_tripsBear 30 = .ok (.getfield 233, 3) := by decide +kernel
theorem d_X4_tripsBear_33 : decode cX4_tripsBear 33 = .ok (.if_icmp .le 5, 3) := by decide +kernel
theorem d_X4_tripsBear_36 : decode cX4_tripsBear 36 = .ok (.iconst 0, 1) := by decide +kernel
theorem d_X4_tripsBear_37 : decode cX4_tripsBear 37 = .ok (.ireturn, 1) := by decide +kernel
theorem d_X4_tripsBear_38 : decode cX4_tripsBear 38 = .ok (.iinc 2 1, 3) := by decide +kernel
theorem d_X4_tripsBear_41 : decode cX4_tripsBear 41 = .ok (.goto (-39), 3) := by decide +kernel
theorem d_X4_tripsBear_44 : decode cX4_tripsBear 44 = .ok (.iconst 1, 1) := by decide +kernel
theorem d_X4_tripsBear_45 : decode cX4_tripsBear 45 = .ok (.ireturn, 1) := by decide +kernel
theorem d_X5_init_0 : decode cX5_init 0 = .ok (.aload_n 0, 1) := by decide +kernel
theorem d_X5_init_1 : decode cX5_init 1 = .ok (.invokespecial 1, 3) := by decide +kernel
theorem d_X5_init_4 : decode cX5_init 4 = .ok (.aload_n 0, 1) := by decide +kernel
theorem d_X5_init_5 : decode cX5_init 5 = .ok (.iconst 0, 1) := by decide +kernel
theorem d_X5_init_6 : decode cX5_init 6 = .ok (.putfield 7, 3) := by decide +kernel
theorem d_X5_init_9 : decode cX5_init 9 = .ok (.aload_n 0, 1) := by decide +kernel
theorem d_X5_init_10 : decode cX5_init 10 = .ok (.iconst 0, 1) := by decide +kernel
theorem d_X5_init_11 : decode cX5_init 11 = .ok (.putfield 13, 3) := by decide +kernel
theorem d_X5_init_14 : decode cX5_init 14 = .ok (.aload_n 0, 1) := by decide +kernel
theorem d_X5_init_15 : decode cX5_init 15 = .ok (.iconst 0, 1) := by decide +kernel
theorem d_X5_init_16 : decode cX5_init 16 = .ok (.putfield 16, 3) := by decide +kernel
theorem d_X5_init_19 : decode cX5_init 19 = .ok (.aload_n 0, 1) := by decide +kernel
theorem d_X5_init_20 : decode cX5_init 20 = .ok (.iconst 0, 1) := by decide +kernel
theorem d_X5_init_21 : decode cX5_init 21 = .ok (.putfield 19, 3) := by decide +kernel
theorem d_X5_init_24 : decode cX5_init 24 = .ok (.return_, 1) := by decide +kernel
theorem d_X5_begin_0 : decode cX5_begin 0 = .ok (.aload_n 0, 1) := by decide +kernel
theorem d_X5_begin_1 : decode cX5_begin 1 = .ok (.iload_n 1, 1) := by decide +kernel
theorem d_X5_begin_2 : decode cX5_begin 2 = .ok (.putfield 7, 3) := by decide +kernel
theorem d_X5_begin_5 : decode cX5_begin 5 = .ok (.aload_n 0, 1) := by decide +kernel
theorem d_X5_begin_6 : decode cX5_begin 6 = .ok (.iload_n 2, 1) := by decide +kernel
theorem d_X5_begin_7 : decode cX5_begin 7 = .ok (.putfield 13, 3) := by decide +kernel
theorem d_X5_begin_10 : decode cX5_begin 10 = .ok (.aload_n 0, 1) := by decide +kernel
theorem d_X5_begin_11 : decode cX5_begin 11 = .ok (.iload_n 3, 1) := by decide +kernel
theorem d_X5_begin_12 : decode cX5_begin 12 = .ok (.putfield 16, 3) := by decide +kernel
theorem d_X5_begin_15 : decode cX5_begin 15 = .ok (.aload_n 0, 1) := by decide +kernel
theorem d_X5_begin_16 : decode cX5_begin 16 = .ok (.iload 4, 2) := by decide +kernel
theorem d_X5_begin_18 : decode cX5_begin 18 = .ok (.putfield 19, 3) := by decide +kernel
theorem d_X5_begin_21 : decode cX5_begin 21 = .ok (.return_, 1) := by decide +kernel
theorem d_X5_copyFrom_0 : decode cX5_copyFrom 0 = .ok (.aload_n 0, 1) := by decide +kernel
theorem d_X5_copyFrom_1 : decode cX5_copyFrom 1 = .ok (.aload_n 1, 1) := by decide +kernel
theorem d_X5_copyFrom_2 : decode cX5_copyFrom 2 = .ok (.getfield 7, 3) := by decide +kernel
theorem d_X5_copyFrom_5 : decode cX5_copyFrom 5 = .ok (.aload_n 1, 1) := by decide +kernel
theorem d_X5_copyFrom_6 : decode cX5_copyFrom 6 = .ok (.getfield 13, 3) := by decide +kernel
theorem d_X5_copyFrom_9 : decode cX5_copyFrom 9 = .ok (.aload_n 1, 1) := by decide +kernel
theorem d_X5_copyFrom_10 : decode cX5_copyFrom 10 = .ok (.getfield 16, 3) := by decide +kernel
theorem d_X5_copyFrom_13 : decode cX5_copyFrom 13 = .ok (.aload_n 1, 1) := by decide +kernel
theorem d_X5_copyFrom_14 : decode cX5_copyFrom 14 = .ok (.getfield 19, 3) := by decide +kernel
theorem d_X5_copyFrom_17 : decode cX5_copyFrom 17 = .ok (.invokevirtual 22, 3) := by decide +kernel
theorem d_X5_copyFrom_20 : decode cX5_copyFrom 20 = .ok (.return_, 1) := by decide +kernel
theorem d_X5_isInForce_0 : decode cX5_isInForce 0 = .ok (.iload_n 1, 1) := by decide +kernel
theorem d_X5_isInForce_1 : decode cX5_isInForce 1 = .ok (.aload_n 0, 1) := by decide +kernel
theorem d_X5_isInForce_2 : decode cX5_isInForce 2 = .ok (.getfield 16, 3) := by decide +kernel
theorem d_X5_isInForce_5 : decode cX5_isInForce 5 = .ok (.aload_n 0, 1) := by decide +kernel
theorem d_X5_isInForce_6 : decode cX5_isInForce 6 = .ok (.getfield 19, 3) := by decide +kernel
theorem d_X5_isInForce_9 : decode cX5_isInForce 9 = .ok (.invokestatic 26, 3) := by decide +kernel
theorem d_X5_isInForce_12 : decode cX5_isInForce 12 = .ok (.ireturn, 1) := by decide +kernel
theorem d_X6_init_0 : decode cX6_init 0 = .ok (.aload_n 0, 1) := by decide +kernel
theorem d_X6_init_1 : decode cX6_init 1 = .ok (.invokespecial 3, 3) := by decide +kernel
theorem d_X6_init_4 : decode cX6_init 4 = .ok (.aload_n 0, 1) := by decide +kernel
theorem d_X6_init_5 : decode cX6_init 5 = .ok (.iconst (-1), 1) := by decide +kernel
theorem d_X6_init_6 : decode cX6_init 6 = .ok (.putfield 9, 3) := by decide +kernel
theorem d_X6_init_9 : decode cX6_init 9 = .ok (.aload_n 0, 1) := by decide +kernel
theorem d_X6_init_10 : decode cX6_init 10 = .ok (.iconst 0, 1) := by decide +kernel
theorem d_X6_init_11 : decode cX6_init 11 = .ok (.putfield 15, 3) := by decide +kernel
theorem d_X6_init_14 : decode cX6_init 14 = .ok (.aload_n 0, 1) := by decide +kernel
theorem d_X6_init_15 : decode cX6_init 15 = .ok (.bipush 40, 2) := by decide +kernel
theorem d_X6_init_17 : decode cX6_init 17 = .ok (.newarray .int, 2) := by decide +kernel
theorem d_X6_init_19 : decode cX6_init 19 = .ok (.putfield 18, 3) := by decide +kernel
theorem d_X6_init_22 : decode cX6_init 22 = .ok (.return_, 1) := by decide +kernel
theorem d_X6_begin_0 : decode cX6_begin 0 = .ok (.aload_n 0, 1) := by decide +kernel
theorem d_X6_begin_1 : decode cX6_begin 1 = .ok (.iload_n 1, 1) := by decide +kernel
theorem d_X6_begin_2 : decode cX6_begin 2 = .ok (.putfield 9, 3) := by decide +kernel
theorem d_X6_begin_5 : decode cX6_begin 5 = .ok (.aload_n 0, 1) := by decide +kernel
theorem d_X6_begin_6 : decode cX6_begin 6 = .ok (.iload_n 2, 1) := by decide +kernel
theorem d_X6_begin_7 : decode cX6_begin 7 = .ok (.putfield 15, 3) := by decide +kernel
theorem d_X6_begin_10 : decode cX6_begin 10 = .ok (.aload_n 0, 1) := by decide +kernel
theorem d_X6_begin_11 : decode cX6_begin 11 = .ok (.getfield 18, 3) := by decide +kernel
theorem d_X6_begin_14 : decode cX6_begin 14 = .ok (.iconst 0, 1) := by decide +kernel
theorem d_X6_begin_15 : decode cX6_begin 15 = .ok (.invokestatic 22, 3) := by decide +kernel
theorem d_X6_begin_18 : decode cX6_begin 18 = .ok (.return_, 1) := by decide +kernel
theorem d_X6_isMissing_0 : decode cX6_isMissing 0 = .ok (.aload_n 0, 1) := by decide +kernel
theorem d_X6_isMissing_1 : decode cX6_isMissing 1 = .ok (.getfield 9, 3) := by decide +kernel
theorem d_X6_isMissing_4 : decode cX6_isMissing 4 = .ok (.iconst (-1), 1) := by decide +kernel
theorem d_X6_isMissing_5 : decode cX6_isMissing 5 = .ok (.if_icmp .ne 7, 3) := by decide +kernel
theorem d_X6_isMissing_8 : decode cX6_isMissing 8 = .ok (.iconst 1, 1) := by decide +kernel
theorem d_X6_isMissing_9 : decode cX6_isMissing 9 = .ok (.goto 4, 3) := by decide +kernel
theorem d_X6_isMissing_12 : decode cX6_isMissing 12 = .ok (.iconst 0, 1) := by decide +kernel
theorem d_X6_isMissing_13 : decode cX6_isMissing 13 = .ok (.ireturn, 1) := by decide +kernel
theorem d_X6_hasPlace_0 : decode cX6_hasPlace 0 = .ok (.iload_n 1, 1) := by decide +kernel
theorem d_X6_hasPlace_1 : decode cX6_hasPlace 1 = .ok (.iconst 0, 1) := by decide +kernel
theorem d_X6_hasPlace_2 : decode cX6_hasPlace 2 = .ok (.aload_n 0, 1) := by decide +kernel
theorem d_X6_hasPlace_3 : decode cX6_hasPlace 3 = .ok (.getfield 15, 3) := by decide +kernel
theorem d_X6_hasPlace_6 : decode cX6_hasPlace 6 = .ok (.iconst 1, 1) := by decide +kernel
theorem d_X6_hasPlace_7 : decode cX6_hasPlace 7 = .ok (.isub, 1) := by decide +kernel
theorem d_X6_hasPlace_8 : decode cX6_hasPlace 8 = .ok (.invokestatic 28, 3) := by decide +kernel
theorem d_X6_hasPlace_11 : decode cX6_hasPlace 11 = .ok (.ireturn, 1) := by decide +kernel
theorem d_X6_faultAs_0 : decode cX6_faultAs 0 = .ok (.aload_n 0, 1) := by decide +kernel
theorem d_X6_faultAs_1 : decode cX6_faultAs 1 = .ok (.invokevirtual 32, 3) := by decide +kernel
theorem d_X6_faultAs_4 : decode cX6_faultAs 4 = .ok (.ifCond .eq 6, 3) := by decide +kernel
theorem d_X6_faultAs_7 : decode cX6_faultAs 7 = .ok (.bipush 10, 2) := by decide +kernel
theorem d_X6_faultAs_9 : decode cX6_faultAs 9 = .ok (.ireturn, 1) := by decide +kernel
theorem d_X6_faultAs_10 : decode cX6_faultAs 10 = .ok (.aload_n 0, 1) := by decide +kernel
theorem d_X6_faultAs_11 : decode cX6_faultAs 11 = .ok (.getfield 9, 3) := by decide +kernel
theorem d_X6_faultAs_14 : decode cX6_faultAs 14 = .ok (.iload_n 1, 1) := by decide +kernel
theorem d_X6_faultAs_15 : decode cX6_faultAs 15 = .ok (.if_icmp .ne 7, 3) := by decide +kernel
theorem d_X6_faultAs_18 : decode cX6_faultAs 18 = .ok (.iconst 0, 1) := by decide +kernel
theorem d_X6_faultAs_19 : decode cX6_faultAs 19 = .ok (.goto 5, 3) := by decide +kernel
theorem d_X6_faultAs_22 : decode cX6_faultAs 22 = .ok (.bipush 11, 2) := by decide +kernel
theorem d_X6_faultAs_24 : decode cX6_faultAs 24 = .ok (.ireturn, 1) := by decide +kernel
theorem d_X6_put_0 : decode cX6_put 0 = .ok (.aload_n 0, 1) := by decide +kernel
theorem d_X6_put_1 : decode cX6_put 1 = .ok (.getfield 18, 3) := by decide +kernel
theorem d_X6_put_4 : decode cX6_put 4 = .ok (.iload_n 1, 1) := by decide +kernel
theorem d_X6_put_5 : decode cX6_put 5 = .ok (.aload_n 0, 1) := by decide +kernel
theorem d_X6_put_6 : decode cX6_put 6 = .ok (.getfield 9, 3) := by decide +kernel
theorem d_X6_put_9 : decode cX6_put 9 = .ok (.ifCond .ne 8, 3) := by decide +kernel
theorem d_X6_put_12 : decode cX6_put 12 = .ok (.iload_n 2, 1) := by decide +kernel
theorem d_X6_put_13 : decode cX6_put 13 = .ok (.i2b, 1) := by decide +kernel
theorem d_X6_put_14 : decode cX6_put 14 = .ok (.goto 4, 3) := by decide +kernel
theorem d_X6_put_17 : decode cX6_put 17 = .ok (.iload_n 2, 1) := by decide +kernel
theorem d_X6_put_18 : decode cX6_put 18 = .ok (.iastore, 1) := by decide +kernel
theorem d_X6_put_19 : decode cX6_put 19 = .ok (.return_, 1) := by decide +kernel
theorem d_X7_init_0 : decode cX7_init 0 = .ok (.aload_n 0, 1) := by decide +kernel
theorem d_X7_init_1 : decode cX7_init 1 = .ok (.invokespecial 3, 3) := by decide +kernel
theorem d_X7_init_4 : decode cX7_init 4 = .ok (.aload_n 0, 1) := by decide +kernel
theorem d_X7_init_5 : decode cX7_init 5 = .ok (.iconst 0, 1) := by decide +kernel
theorem d_X7_init_6 : decode cX7_init 6 = .ok (.putfield 9, 3) := by decide +kernel
theorem d_X7_init_9 : decode cX7_init 9 = .ok (.aload_n 0, 1) := by decide +kernel
theorem d_X7_init_10 : decode cX7_init 10 = .ok (.iconst 0, 1) := by decide +kernel
theorem d_X7_init_11 : decode cX7_init 11 = .ok (.putfield 15, 3) := by decide +kernel
theorem d_X7_init_14 : decode cX7_init 14 = .ok (.aload_n 0, 1) := by decide +kernel
theorem d_X7_init_15 : decode cX7_init 15 = .ok (.iconst 0, 1) := by decide +kernel
theorem d_X7_init_16 : decode cX7_init 16 = .ok (.putfield 18, 3) := by decide +kernel
theorem d_X7_init_19 : decode cX7_init 19 = .ok (.aload_n 0, 1) := by decide +kernel
theorem d_X7_init_20 : decode cX7_init 20 = .ok (.iconst 0, 1) := by decide +kernel
theorem d_X7_init_21 : decode cX7_init 21 = .ok (.putfield 21, 3) := by decide +kernel
theorem d_X7_init_24 : decode cX7_init 24 = .ok (.aload_n 0, 1) := by decide +kernel
theorem d_X7_init_25 : decode cX7_init 25 = .ok (.iconst 0, 1) := by decide +kernel
theorem d_X7_init_26 : decode cX7_init 26 = .ok (.putfield 24, 3) := by decide +kernel
theorem d_X7_init_29 : decode cX7_init 29 = .ok (.aload_n 0, 1) := by decide +kernel
theorem d_X7_init_30 : decode cX7_init 30 = .ok (.bipush 100, 2) := by decide +kernel
theorem d_X7_init_32 : decode cX7_init 32 = .ok (.newarray .int, 2) := by decide +kernel
theorem d_X7_init_34 : decode cX7_init 34 = .ok (.putfield 28, 3) := by decide +kernel
theorem d_X7_init_37 : decode cX7_init 37 = .ok (.return_, 1) := by decide +kernel
theorem d_X7_begin_0 : decode cX7_begin 0 = .ok (.aload_n 0, 1) := by decide +kernel
theorem d_X7_begin_1 : decode cX7_begin 1 = .ok (.iload_n 1, 1) := by decide +kernel
theorem d_X7_begin_2 : decode cX7_begin 2 = .ok (.putfield 9, 3) := by decide +kernel
theorem d_X7_begin_5 : decode cX7_begin 5 = .ok (.aload_n 0, 1) := by decide +kernel
theorem d_X7_begin_6 : decode cX7_begin 6 = .ok (.iload_n 2, 1) := by decide +kernel
theorem d_X7_begin_7 : decode cX7_begin 7 = .ok (.putfield 15, 3) := by decide +kernel
theorem d_X7_begin_10 : decode cX7_begin 10 = .ok (.aload_n 0, 1) := by decide +kernel
theorem d_X7_begin_11 : decode cX7_begin 11 = .ok (.iload_n 3, 1) := by decide +kernel
theorem d_X7_begin_12 : decode cX7_begin 12 = .ok (.putfield 18, 3) := by decide +kernel
theorem d_X7_begin_15 : decode cX7_begin 15 = .ok (.aload_n 0, 1) := by decide +kernel
theorem d_X7_begin_16 : decode cX7_begin 16 = .ok (.iload 4, 2) := by decide +kernel
theorem d_X7_begin_18 : decode cX7_begin 18 = .ok (.putfield 21, 3) := by decide +kernel
theorem d_X7_begin_21 : decode cX7_begin 21 = .ok (.aload_n 0, 1) := by decide +kernel
theorem d_X7_begin_22 : decode cX7_begin 22 = .ok (.iconst 0, 1) := by decide +kernel
theorem d_X7_begin_23 : decode cX7_begin 23 = .ok (.putfield 24, 3) := by decide +kernel
theorem d_X7_begin_26 : decode cX7_begin 26 = .ok (.aload_n 0, 1) := by decide +kernel
theorem d_X7_begin_27 : decode cX7_begin 27 = .ok (.getfield 28, 3) := by decide +kernel
theorem d_X7_begin_30 : decode cX7_begin 30 = .ok (.sipush (-1000), 3) := by decide +kernel
theorem d_X7_begin_33 : decode cX7_begin 33 = .ok (.invokestatic 32, 3) := by decide +kernel
theorem d_X7_begin_36 : decode cX7_begin 36 = .ok (.return_, 1) := by decide +kernel
theorem d_X7_copyFrom_0 : decode cX7_copyFrom 0 = .ok (.aload_n 0, 1) := by decide +kernel
theorem d_X7_copyFrom_1 : decode cX7_copyFrom 1 = .ok (.aload_n 1, 1) := by decide +kernel
theorem d_X7_copyFrom_2 : decode cX7_copyFrom 2 = .ok (.getfield 9, 3) := by decide +kernel
theorem d_X7_copyFrom_5 : decode cX7_copyFrom 5 = .ok (.putfield 9, 3) := by decide +kernel
theorem d_X7_copyFrom_8 : decode cX7_copyFrom 8 = .ok (.aload_n 0, 1) := by decide +kernel
theorem d_X7_copyFrom_9 : decode cX7_copyFrom 9 = .ok (.aload_n 1, 1) := by decide +kernel
theorem d_X7_copyFrom_10 : decode cX7_copyFrom 10 = .ok (.getfield 15, 3) := by decide +kernel
theorem d_X7_copyFrom_13 : decode cX7_copyFrom 13 = .ok (.putfield 15, 3) := by decide +kernel
theorem d_X7_copyFrom_16 : decode cX7_copyFrom 16 = .ok (.aload_n 0, 1) := by decide +kernel
theorem d_X7_copyFrom_17 : decode cX7_copyFrom 17 = .ok (.aload_n 1, 1) := by decide +kernel
theorem d_X7_copyFrom_18 : decode cX7_copyFrom 18 = .ok (.getfield 18, 3) := by decide +kernel
theorem d_X7_copyFrom_21 : decode cX7_copyFrom 21 = .ok (.putfield 18, 3) := by decide +kernel
theorem d_X7_copyFrom_24 : decode cX7_copyFrom 24 = .ok (.aload_n 0, 1) := by decide +kernel
theorem d_X7_copyFrom_25 : decode cX7_copyFrom 25 = .ok (.aload_n 1, 1) := by decide +kernel
theorem d_X7_copyFrom_26 : decode cX7_copyFrom 26 = .ok (.getfield 21, 3) := by decide +kernel
theorem d_X7_copyFrom_29 : decode cX7_copyFrom 29 = .ok (.putfield 21, 3) := by decide +kernel
theorem d_X7_copyFrom_32 : decode cX7_copyFrom 32 = .ok (.aload_n 0, 1) := by decide +kernel
theorem d_X7_copyFrom_33 : decode cX7_copyFrom 33 = .ok (.aload_n 1, 1) := by decide +kernel
theorem d_X7_copyFrom_34 : decode cX7_copyFrom 34 = .ok (.getfield 24, 3) := by decide +kernel
theorem d_X7_copyFrom_37 : decode cX7_copyFrom 37 = .ok (.putfield 24, 3) := by decide +kernel
theorem d_X7_copyFrom_40 : decode cX7_copyFrom 40 = .ok (.aload_n 1, 1) := by decide +kernel
theorem d_X7_copyFrom_41 : decode cX7_copyFrom 41 = .ok (.getfield 28, 3) := by decide +kernel
theorem d_X7_copyFrom_44 : decode cX7_copyFrom 44 = .ok (.iconst 0, 1) := by decide +kernel
theorem d_X7_copyFrom_45 : decode cX7_copyFrom 45 = .ok (.aload_n 0, 1) := by decide +kernel
theorem d_X7_copyFrom_46 : decode cX7_copyFrom 46 = .ok (.getfield 28, 3) := by decide +kernel
theorem d_X7_copyFrom_49 : decode cX7_copyFrom 49 = .ok (.iconst 0, 1) := by decide +kernel
theorem d_X7_copyFrom_50 : decode cX7_copyFrom 50 = .ok (.bipush 100, 2) := by decide +kernel
theorem d_X7_copyFrom_52 : decode cX7_copyFrom 52 = .ok (.invokestatic 38, 3) := by decide +kernel
theorem d_X7_copyFrom_55 : decode cX7_copyFrom 55 = .ok (.return_, 1) := by decide +kernel
theorem d_X7_shiftOn_0 : decode cX7_shiftOn 0 = .ok (.iload_n 1, 1) := by decide +kernel
theorem d_X7_shiftOn_1 : decode cX7_shiftOn 1 = .ok (.istore_n 2, 1) := by decide +kernel
theorem d_X7_shiftOn_2 : decode cX7_shiftOn 2 = .ok (.iload_n 2, 1) := by decide +kernel
theorem d_X7_shiftOn_3 : decode cX7_shiftOn 3 = .ok (.ifCond .lt 21, 3) := by decide +kernel
theorem d_X7_shiftOn_6 : decode cX7_shiftOn 6 = .ok (.aload_n 0, 1) := by decide +kernel
theorem d_X7_shiftOn_7 : decode cX7_shiftOn 7 = .ok (.getfield 28, 3) := by decide +kernel
theorem d_X7_shiftOn_10 : decode cX7_shiftOn 10 = .ok (.iload_n 2, 1) := by decide +kernel
theorem d_X7_shiftOn_11 : decode cX7_shiftOn 11 = .ok (.iaload, 1) := by decide +kernel
theorem d_X7_shiftOn_12 : decode cX7_shiftOn 12 = .ok (.sipush (-1000), 3) := by decide +kernel
theorem d_X7_shiftOn_15 : decode cX7_shiftOn 15 = .ok (.if_icmp .ne 9, 3) := by decide +kernel
theorem d_X7_shiftOn_18 : decode cX7_shiftOn 18 = .ok (.iinc 2 (-1), 3) := by decide +kernel
theorem d_X7_shiftOn_21 : decode cX7_shiftOn 21 = .ok (.goto (-19), 3) := by decide +kernel
theorem d_X7_shiftOn_24 : decode cX7_shiftOn 24 = .ok (.iload_n 2, 1) := by decide +kernel
theorem d_X7_shiftOn_25 : decode cX7_shiftOn 25 = .ok (.ifCond .lt 12, 3) := by decide +kernel
theorem d_X7_shiftOn_28 : decode cX7_shiftOn 28 = .ok (.aload_n 0, 1) := by decide +kernel
theorem d_X7_shiftOn_29 : decode cX7_shiftOn 29 = .ok (.getfield 28, 3) := by decide +kernel
theorem d_X7_shiftOn_32 : decode cX7_shiftOn 32 = .ok (.iload_n 2, 1) := by decide +kernel
theorem d_X7_shiftOn_33 : decode cX7_shiftOn 33 = .ok (.iaload, 1) := by decide +kernel
theorem d_X7_shiftOn_34 : decode cX7_shiftOn 34 = .ok (.goto 4, 3) := by decide +kernel
theorem d_X7_shiftOn_37 : decode cX7_shiftOn 37 = .ok (.iconst 0, 1) := by decide +kernel
theorem d_X7_shiftOn_38 : decode cX7_shiftOn 38 = .ok (.ireturn, 1) := by decide +kernel
theorem d_X8_init_0 : decode cX8_init 0 = .ok (.aload_n 0, 1) := by decide +kernel
theorem d_X8_init_1 : decode cX8_init 1 = .ok (.invokespecial 1, 3) := by decide +kernel
theorem d_X8_init_4 : decode cX8_init 4 = .ok (.aload_n 0, 1) := by decide +kernel
theorem d_X8_init_5 : decode cX8_init 5 = .ok (.iconst 0, 1) := by decide +kernel
theorem d_X8_init_6 : decode cX8_init 6 = .ok (.putfield 7, 3) := by decide +kernel
theorem d_X8_init_9 : decode cX8_init 9 = .ok (.aload_n 0, 1) := by decide +kernel
theorem d_X8_init_10 : decode cX8_init 10 = .ok (.iconst 0, 1) := by decide +kernel
theorem d_X8_init_11 : decode cX8_init 11 = .ok (.putfield 13, 3) := by decide +kernel
theorem d_X8_init_14 : decode cX8_init 14 = .ok (.aload_n 0, 1) := by decide +kernel
theorem d_X8_init_15 : decode cX8_init 15 = .ok (.iconst 0, 1) := by decide +kernel
theorem d_X8_init_16 : decode cX8_init 16 = .ok (.putfield 16, 3) := by decide +kernel
theorem d_X8_init_19 : decode cX8_init 19 = .ok (.return_, 1) := by decide +kernel
theorem d_X8_begin_0 : decode cX8_begin 0 = .ok (.aload_n 0, 1) := by decide +kernel
theorem d_X8_begin_1 : decode cX8_begin 1 = .ok (.iload_n 1, 1) := by decide +kernel
theorem d_X8_begin_2 : decode cX8_begin 2 = .ok (.putfield 7, 3) := by decide +kernel
theorem d_X8_begin_5 : decode cX8_begin 5 = .ok (.aload_n 0, 1) := by decide +kernel
theorem d_X8_begin_6 : decode cX8_begin 6 = .ok (.iload_n 2, 1) := by decide +kernel
theorem d_X8_begin_7 : decode cX8_begin 7 = .ok (.putfield 13, 3) := by decide +kernel
theorem d_X8_begin_10 : decode cX8_begin 10 = .ok (.aload_n 0, 1) := by decide +kernel
theorem d_X8_begin_11 : decode cX8_begin 11 = .ok (.iload_n 3, 1) := by decide +kernel
theorem d_X8_begin_12 : decode cX8_begin 12 = .ok (.putfield 16, 3) := by decide +kernel
theorem d_X8_begin_15 : decode cX8_begin 15 = .ok (.return_, 1) := by decide +kernel
theorem d_X8_copyFrom_0 : decode cX8_copyFrom 0 = .ok (.aload_n 0, 1) := by decide +kernel
theorem d_X8_copyFrom_1 : decode cX8_copyFrom 1 = .ok (.aload_n 1, 1) := by decide +kernel
theorem d_X8_copyFrom_2 : decode cX8_copyFrom 2 = .ok (.getfield 7, 3) := by decide +kernel
theorem d_X8_copyFrom_5 : decode cX8_copyFrom 5 = .ok (.aload_n 1, 1) := by decide +kernel
theorem d_X8_copyFrom_6 : decode cX8_copyFrom 6 = .ok (.getfield 13, 3) := by decide +kernel
theorem d_X8_copyFrom_9 : decode cX8_copyFrom 9 = .ok (.aload_n 1, 1) := by decide +kernel
theorem d_X8_copyFrom_10 : decode cX8_copyFrom 10 = .ok (.getfield 16, 3) := by decide +kernel
theorem d_X8_copyFrom_13 : decode cX8_copyFrom 13 = .ok (.invokevirtual 19, 3) := by decide +kernel
theorem d_X8_copyFrom_16 : decode cX8_copyFrom 16 = .ok (.return_, 1) := by decide +kernel
theorem d_X8_wayBits_0 : decode cX8_wayBits 0 = .ok (.iconst 1, 1) := by decide +kernel
theorem d_X8_wayBits_1 : decode cX8_wayBits 1 = .ok (.aload_n 0, 1) := by decide +kernel
theorem d_X8_wayBits_2 : decode cX8_wayBits 2 = .ok (.getfield 7, 3) := by decide +kernel
theorem d_X8_wayBits_5 : decode cX8_wayBits 5 = .ok (.aload_n 0, 1) := by decide +kernel
theorem d_X8_wayBits_6 : decode cX8_wayBits 6 = .ok (.getfield 13, 3) := by decide +kernel
theorem d_X8_wayBits_9 : decode cX8_wayBits 9 = .ok (.invokestatic 23, 3) := by decide +kernel
theorem d_X8_wayBits_12 : decode cX8_wayBits 12 = .ok (.ishl, 1) := by decide +kernel
theorem d_X8_wayBits_13 : decode cX8_wayBits 13 = .ok (.iconst 1, 1) := by decide +kernel
theorem d_X8_wayBits_14 : decode cX8_wayBits 14 = .ok (.aload_n 0, 1) := by decide +kernel
theorem d_X8_wayBits_15 : decode cX8_wayBits 15 = .ok (.getfield 7, 3) := by decide +kernel
theorem d_X8_wayBits_18 : decode cX8_wayBits 18 = .ok (.aload_n 0, 1) := by decide +kernel
theorem d_X8_wayBits_19 : decode cX8_wayBits 19 = .ok (.getfield 13, 3) := by decide +kernel
theorem d_X8_wayBits_22 : decode cX8_wayBits 22 = .ok (.invokestatic 29, 3) := by decide +kernel
theorem d_X8_wayBits_25 : decode cX8_wayBits 25 = .ok (.ishl, 1) := by decide +kernel
theorem d_X8_wayBits_26 : decode cX8_wayBits 26 = .ok (.isub, 1) := by decide +kernel
theorem d_X8_wayBits_27 : decode cX8_wayBits 27 = .ok (.ireturn, 1) := by decide +kernel
theorem d_X9_init_0 : decode cX9_init 0 = .ok (.aload_n 0, 1) := by decide +kernel
theorem d_X9_init_1 : decode cX9_init 1 = .ok (.invokespecial 3, 3) := by decide +kernel
theorem d_X9_init_4 : decode cX9_init 4 = .ok (.aload_n 0, 1) := by decide +kernel
theorem d_X9_init_5 : decode cX9_init 5 = .ok (.iconst 0, 1) := by decide +kernel
theorem d_X9_init_6 : decode cX9_init 6 = .ok (.putfield 9, 3) := by decide +kernel
theorem d_X9_init_9 : decode cX9_init 9 = .ok (.aload_n 0, 1) := by decide +kernel
theorem d_X9_init_10 : decode cX9_init 10 = .ok (.iconst 0, 1) := by decide +kernel
theorem d_X9_init_11 : decode cX9_init 11 = .ok (.putfield 15, 3) := by decide +kernel
theorem d_X9_init_14 : decode cX9_init 14 = .ok (.aload_n 0, 1) := by decide +kernel
theorem d_X9_init_15 : decode cX9_init 15 = .ok (.bipush 10, 2) := by decide +kernel
theorem d_X9_init_17 : decode cX9_init 17 = .ok (.newarray .int, 2) := by decide +kernel
theorem d_X9_init_19 : decode cX9_init 19 = .ok (.putfield 18, 3) := by decide +kernel
theorem d_X9_init_22 : decode cX9_init 22 = .ok (.aload_n 0, 1) := by decide +kernel
theorem d_X9_init_23 : decode cX9_init 23 = .ok (.bipush 10, 2) := by decide +kernel
theorem d_X9_init_25 : decode cX9_init 25 = .ok (.newarray .int, 2) := by decide +kernel
theorem d_X9_init_27 : decode cX9_init 27 = .ok (.putfield 22, 3) := by decide +kernel
theorem d_X9_init_30 : decode cX9_init 30 = .ok (.aload_n 0, 1) := by decide +kernel
theorem d_X9_init_31 : decode cX9_init 31 = .ok (.sipush 1100, 3) := by decide +kernel
theorem d_X9_init_34 : decode cX9_init 34 = .ok (.newarray .int, 2) := by decide +kernel
theorem d_X9_init_36 : decode cX9_init 36 = .ok (.putfield 25, 3) := by decide +kernel
theorem d_X9_init_39 : decode cX9_init 39 = .ok (.return_, 1) := by decide +kernel
theorem d_X9_workOut_0 : decode cX9_workOut 0 = .ok (.aload_n 0, 1) := by decide +kernel
theorem d_X9_workOut_1 : decode cX9_workOut 1 = .ok (.iload_n 2, 1) := by decide +kernel
theorem d_X9_workOut_2 : decode cX9_workOut 2 = .ok (.putfield 15, 3) := by decide +kernel
theorem d_X9_workOut_5 : decode cX9_workOut 5 = .ok (.aload_n 0, 1) := by decide +kernel
theorem d_X9_workOut_6 : decode cX9_workOut 6 = .ok (.iload 4, 2) := by decide +kernel
theorem d_X9_workOut_8 : decode cX9_workOut 8 = .ok (.iload_n 3, 1) := by decide +kernel
theorem d_X9_workOut_9 : decode cX9_workOut 9 = .ok (.isub, 1) := by decide +kernel
theorem d_X9_workOut_10 : decode cX9_workOut 10 = .ok (.invokestatic 28, 3) := by decide +kernel
theorem d_X9_workOut_13 : decode cX9_workOut 13 = .ok (.putfield 9, 3) := by decide +kernel
theorem d_X9_workOut_16 : decode cX9_workOut 16 = .ok (.iload 4, 2) := by decide +kernel
theorem d_X9_workOut_18 : decode cX9_workOut 18 = .ok (.iload_n 3, 1) := by decide +kernel
theorem d_X9_workOut_19 : decode cX9_workOut 19 = .ok (.if_icmp .le 7, 3) := by decide +kernel
theorem d_X9_workOut_22 : decode cX9_workOut 22 = .ok (.iconst 1, 1) := by decide +kernel
theorem d_X9_workOut_23 : decode cX9_workOut 23 = .ok (.goto 4, 3) := by decide +kernel
theorem d_X9_workOut_26 : decode cX9_workOut 26 = .ok (.iconst 0, 1) := by decide +kernel
theorem d_X9_workOut_27 : decode cX9_workOut 27 = .ok (.istore 5, 2) := by decide +kernel
theorem d_X9_workOut_29 : decode cX9_workOut 29 = .ok (.iconst 0, 1) := by decide +kernel
theorem d_X9_workOut_30 : decode cX9_workOut 30 = .ok (.istore 6, 2) := by decide +kernel
theorem d_X9_workOut_32 : decode cX9_workOut 32 = .ok (.iload 6, 2) := by decide +kernel
theorem d_X9_workOut_34 : decode cX9_workOut 34 = .ok (.aload_n 0, 1) := by decide +kernel
theorem d_X9_workOut_35 : decode cX9_workOut 35 = .ok (.getfield 9, 3) := by decide +kernel
theorem d_X9_workOut_38 : decode cX9_workOut 38 = .ok (.if_icmp .ge 69, 3) := by decide +kernel
theorem d_X9_workOut_41 : decode cX9_workOut 41 = .ok (.iload 5, 2) := by decide +kernel
theorem d_X9_workOut_43 : decode cX9_workOut 43 = .ok (.ifCond .eq 10, 3) := by decide +kernel
theorem d_X9_workOut_46 : decode cX9_workOut 46 = .ok (.iload_n 3, 1) := by decide +kernel
theorem d_X9_workOut_47 : decode cX9_workOut 47 = .ok (.iload 6, 2) := by decide +kernel
theorem d_X9_workOut_49 : decode cX9_workOut 49 = .ok (.iadd, 1) := by decide +kernel
theorem d_X9_workOut_50 : decode cX9_workOut 50 = .ok (.goto 7, 3) := by decide +kernel
theorem d_X9_workOut_53 : decode cX9_workOut 53 = .ok (.iload_n 3, 1) := by decide +kernel
theorem d_X9_workOut_54 : decode cX9_workOut 54 = .ok (.iload 6, 2) := by decide +kernel
theorem d_X9_workOut_56 : decode cX9_workOut 56 = .ok (.isub, 1) := by decide +kernel
theorem d_X9_workOut_57 : decode cX9_workOut 57 = .ok (.istore 7, 2) := by decide +kernel
theorem d_X9_workOut_59 : decode cX9_workOut 59 = .ok (.aload_n 0, 1) := by decide +kernel
theorem d_X9_workOut_60 : decode cX9_workOut 60 = .ok (.getfield 18, 3) := by decide +kernel
theorem d_X9_workOut_63 : decode cX9_workOut 63 = .ok (.iload 6, 2) := by decide +kernel
theorem d_X9_workOut_65 : decode cX9_workOut 65 = .ok (.aload_n 1, 1) := by decide +kernel
theorem d_X9_workOut_66 : decode cX9_workOut 66 = .ok (.getfield 34, 3) := by decide +kernel
theorem d_X9_workOut_69 : decode cX9_workOut 69 = .ok (.iload 7, 2) := by decide +kernel
theorem d_X9_workOut_71 : decode cX9_workOut 71 = .ok (.aaload, 1) := by decide +kernel
theorem d_X9_workOut_72 : decode cX9_workOut 72 = .ok (.getfield 40, 3) := by decide +kernel
theorem d_X9_workOut_75 : decode cX9_workOut 75 = .ok (.iastore, 1) := by decide +kernel
theorem d_X9_workOut_76 : decode cX9_workOut 76 = .ok (.aload_n 0, 1) := by decide +kernel
theorem d_X9_workOut_77 : decode cX9_workOut 77 = .ok (.getfield 22, 3) := by decide +kernel
theorem d_X9_workOut_80 : decode cX9_workOut 80 = .ok (.iload 6, 2) := by decide +kernel
theorem d_X9_workOut_82 : decode cX9_workOut 82 = .ok (.aload_n 1, 1) := by decide +kernel
theorem d_X9_workOut_83 : decode cX9_workOut 83 = .ok (.iload 5, 2) := by decide +kernel
theorem d_X9_workOut_85 : decode cX9_workOut 85 = .ok (.ifCond .eq 8, 3) := by decide +kernel
theorem d_X9_workOut_88 : decode cX9_workOut 88 = .ok (.iload 7, 2) := by decide +kernel
theorem d_X9_workOut_90 : decode cX9_workOut 90 = .ok (.goto 7, 3) := by decide +kernel
theorem d_X9_workOut_93 : decode cX9_workOut 93 = .ok (.iload 7, 2) := by decide +kernel
theorem d_X9_workOut_95 : decode cX9_workOut 95 = .ok (.iconst 1, 1) := by decide +kernel
theorem d_X9_workOut_96 : decode cX9_workOut 96 = .ok (.isub, 1) := by decide +kernel
theorem d_X9_workOut_97 : decode cX9_workOut 97 = .ok (.invokevirtual 45, 3) := by decide +kernel
theorem d_X9_workOut_100 : decode cX9_workOut 100 = .ok (.iastore, 1) := by decide +kernel
theorem d_X9_workOut_101 : decode cX9_workOut 101 = .ok (.iinc 6 1, 3) := by decide +kernel
theorem d_X9_workOut_104 : decode cX9_workOut 104 = .ok (.goto (-72), 3) := by decide +kernel
theorem d_X9_workOut_107 : decode cX9_workOut 107 = .ok (.iconst 0, 1) := by decide +kernel
theorem d_X9_workOut_108 : decode cX9_workOut 108 = .ok (.istore 6, 2) := by decide +kernel
theorem d_X9_workOut_110 : decode cX9_workOut 110 = .ok (.iload 6, 2) := by decide +kernel
theorem d_X9_workOut_112 : decode cX9_workOut 112 = .ok (.aload_n 0, 1) := by decide +kernel
theorem d_X9_workOut_113 : decode cX9_workOut 113 = .ok (.getfield 15, 3) := by decide +kernel
theorem d_X9_workOut_116 : decode cX9_workOut 116 = .ok (.if_icmp .gt 25, 3) := by decide +kernel
theorem d_X9_workOut_119 : decode cX9_workOut 119 = .ok (.aload_n 0, 1) := by decide +kernel
theorem d_X9_workOut_120 : decode cX9_workOut 120 = .ok (.getfield 25, 3) := by decide +kernel
theorem d_X9_workOut_123 : decode cX9_workOut 123 = .ok (.aload_n 0, 1) := by decide +kernel
theorem d_X9_workOut_124 : decode cX9_workOut 124 = .ok (.getfield 9, 3) := by decide +kernel
theorem d_X9_workOut_127 : decode cX9_workOut 127 = .ok (.bipush 100, 2) := by decide +kernel
theorem d_X9_workOut_129 : decode cX9_workOut 129 = .ok (.imul, 1) := by decide +kernel
theorem d_X9_workOut_130 : decode cX9_workOut 130 = .ok (.iload 6, 2) := by decide +kernel
theorem d_X9_workOut_132 : decode cX9_workOut 132 = .ok (.iadd, 1) := by decide +kernel
theorem d_X9_workOut_133 : decode cX9_workOut 133 = .ok (.iconst 0, 1) := by decide +kernel
theorem d_X9_workOut_134 : decode cX9_workOut 134 = .ok (.iastore, 1) := by decide +kernel
theorem d_X9_workOut_135 : decode cX9_workOut 135 = .ok (.iinc 6 1, 3) := by decide +kernel
theorem d_X9_workOut_138 : decode cX9_workOut 138 = .ok (.goto (-28), 3) := by decide +kernel
theorem d_X9_workOut_141 : decode cX9_workOut 141 = .ok (.aload_n 0, 1) := by decide +kernel
theorem d_X9_workOut_142 : decode cX9_workOut 142 = .ok (.getfield 9, 3) := by decide +kernel
theorem d_X9_workOut_145 : decode cX9_workOut 145 = .ok (.iconst 1, 1) := by decide +kernel
theorem d_X9_workOut_146 : decode cX9_workOut 146 = .ok (.isub, 1) := by decide +kernel
theorem d_X9_workOut_147 : decode cX9_workOut 147 = .ok (.istore 6, 2) := by decide +kernel
theorem d_X9_workOut_149 : decode cX9_workOut 149 = .ok (.iload 6, 2) := by decide +kernel
theorem d_X9_workOut_151 : decode cX9_workOut 151 = .ok (.ifCond .lt 15, 3) := by decide +kernel
theorem d_X9_workOut_154 : decode cX9_workOut 154 = .ok (.aload_n 0, 1) := by decide +kernel
theorem d_X9_workOut_155 : decode cX9_workOut 155 = .ok (.iload 6, 2) := by decide +kernel
theorem d_X9_workOut_157 : decode cX9_workOut 157 = .ok (.invokevirtual 48, 3) := by decide +kernel
theorem d_X9_workOut_160 : decode cX9_workOut 160 = .ok (.iinc 6 (-1), 3) := by decide +kernel
theorem d_X9_workOut_163 : decode cX9_workOut 163 = .ok (.goto (-14), 3) := by decide +kernel
theorem d_X9_workOut_166 : decode cX9_workOut 166 = .ok (.return_, 1) := by decide +kernel
theorem d_X9_workOutStep_0 : decode cX9_workOutStep 0 = .ok (.aload_n 0, 1) := by decide +kernel
theorem d_X9_workOutStep_1 : decode cX9_workOutStep 1 = .ok (.getfield 18, 3) := by decide +kernel
theorem d_X9_workOutStep_4 : decode cX9_workOutStep 4 = .ok (.iload_n 1, 1) := by decide +kernel
theorem d_X9_workOutStep_5 : decode cX9_workOutStep 5 = .ok (.iaload, 1) := by decide +kernel
theorem d_X9_workOutStep_6 : decode cX9_workOutStep 6 = .ok (.istore_n 2, 1) := by decide +kernel
theorem d_X9_workOutStep_7 : decode cX9_workOutStep 7 = .ok (.ldc 52, 2) := by decide +kernel
theorem d_X9_workOutStep_9 : decode cX9_workOutStep 9 = .ok (.istore_n 3, 1) := by decide +kernel
theorem d_X9_workOutStep_10 : decode cX9_workOutStep 10 = .ok (.aload_n 0, 1) := by decide +kernel
theorem d_X9_workOutStep_11 : decode cX9_workOutStep 11 = .ok (.getfield 15, 3) := by decide +kernel
theorem d_X9_workOutStep_14 : decode cX9_workOutStep 14 = .ok (.istore 4, 2) := by decide +kernel
theorem d_X9_workOutStep_16 : decode cX9_workOutStep 16 = .ok (.iload 4, 2) := by decide +kernel
theorem d_X9_workOutStep_18 : decode cX9_workOutStep 18 = .ok (.ifCond .lt 88, 3) := by decide +kernel
theorem d_X9_workOutStep_21 : decode cX9_workOutStep 21 = .ok (.aload_n 0, 1) := by decide +kernel
theorem d_X9_workOutStep_22 : decode cX9_workOutStep 22 = .ok (.iload_n 1, 1) := by decide +kernel
theorem d_X9_workOutStep_23 : decode cX9_workOutStep 23 = .ok (.iload 4, 2) := by decide +kernel
theorem d_X9_workOutStep_25 : decode cX9_workOutStep 25 = .ok (.invokevirtual 53, 3) := by decide +kernel
theorem d_X9_workOutStep_28 : decode cX9_workOutStep 28 = .ok (.istore 5, 2) := by decide +kernel
theorem d_X9_workOutStep_30 : decode cX9_workOutStep 30 = .ok (.iload_n 2, 1) := by decide +kernel
theorem d_X9_workOutStep_31 : decode cX9_workOutStep 31 = .ok (.ifCond .ne 9, 3) := by decide +kernel
theorem d_X9_workOutStep_34 : decode cX9_workOutStep 34 = .ok (.iload 5, 2) := by decide +kernel
theorem d_X9_workOutStep_36 : decode cX9_workOutStep 36 = .ok (.istore_n 3, 1) := by decide +kernel
theorem d_X9_workOutStep_37 : decode cX9_workOutStep 37 = .ok (.goto 22, 3) := by decide +kernel
theorem d_X9_workOutStep_40 : decode cX9_workOutStep 40 = .ok (.iload 5, 2) := by decide +kernel
theorem d_X9_workOutStep_42 : decode cX9_workOutStep 42 = .ok (.ldc 52, 2) := by decide +kernel
theorem d_X9_workOutStep_44 : decode cX9_workOutStep 44 = .ok (.if_icmp .eq 15, 3) := by decide +kernel
theorem d_X9_workOutStep_47 : decode cX9_workOutStep 47 = .ok (.iload_n 3, 1) := by decide +kernel
theorem d_X9_workOutStep_48 : decode cX9_workOutStep 48 = .ok (.iload 5, 2) := by decide +kernel
theorem d_X9_workOutStep_50 : decode cX9_workOutStep 50 = .ok (.iload_n 2, 1) := by decide +kernel
theorem d_X9_workOutStep_51 : decode cX9_workOutStep 51 = .ok (.iload 4, 2) := by decide +kernel
theorem d_X9_workOutStep_53 : decode cX9_workOutStep 53 = .ok (.imul, 1) := by decide +kernel
theorem d_X9_workOutStep_54 : decode cX9_workOutStep 54 = .ok (.iadd, 1) := by decide +kernel
theorem d_X9_workOutStep_55 : decode cX9_workOutStep 55 = .ok (.invokestatic 57, 3) := by decide +kernel
theorem d_X9_workOutStep_58 : decode cX9_workOutStep 58 = .ok (.istore_n 3, 1) := by decide +kernel
theorem d_X9_workOutStep_59 : decode cX9_workOutStep 59 = .ok (.iload_n 3, 1) := by decide +kernel
theorem d_X9_workOutStep_60 : decode cX9_workOutStep 60 = .ok (.ldc 52, 2) := by decide +kernel
theorem d_X9_workOutStep_62 : decode cX9_workOutStep 62 = .ok (.if_icmp .eq 7, 3) := by decide +kernel
theorem d_X9_workOutStep_65 : decode cX9_workOutStep 65 = .ok (.iconst 1, 1) := by decide +kernel
theorem d_X9_workOutStep_66 : decode cX9_workOutStep 66 = .ok (.goto 4, 3) := by decide +kernel
theorem d_X9_workOutStep_69 : decode cX9_workOutStep 69 = .ok (.iconst 0, 1) := by decide +kernel
theorem d_X9_workOutStep_70 : decode cX9_workOutStep 70 = .ok (.istore 6, 2) := by decide +kernel
theorem d_X9_workOutStep_72 : decode cX9_workOutStep 72 = .ok (.aload_n 0, 1) := by decide +kernel
theorem d_X9_workOutStep_73 : decode cX9_workOutStep 73 = .ok (.getfield 25, 3) := by decide +kernel
theorem d_X9_workOutStep_76 : decode cX9_workOutStep 76 = .ok (.iload_n 1, 1) := by decide +kernel
theorem d_X9_workOutStep_77 : decode cX9_workOutStep 77 = .ok (.bipush 100, 2) := by decide +kernel
theorem d_X9_workOutStep_79 : decode cX9_workOutStep 79 = .ok (.imul, 1) := by decide +kernel
theorem d_X9_workOutStep_80 : decode cX9_workOutStep 80 = .ok (.iload 4, 2) := by decide +kernel
theorem d_X9_workOutStep_82 : decode cX9_workOutStep 82 = .ok (.iadd, 1) := by decide +kernel
theorem d_X9_workOutStep_83 : decode cX9_workOutStep 83 = .ok (.iload 6, 2) := by decide +kernel
theorem d_X9_workOutStep_85 : decode cX9_workOutStep 85 = .ok (.ifCond .eq 12, 3) := by decide +kernel
theorem d_X9_workOutStep_88 : decode cX9_workOutStep 88 = .ok (.iload_n 3, 1) := by decide +kernel
theorem d_X9_workOutStep_89 : decode cX9_workOutStep 89 = .ok (.iload_n 2, 1) := by decide +kernel
theorem d_X9_workOutStep_90 : decode cX9_workOutStep 90 = .ok (.iload 4, 2) := by decide +kernel
theorem d_X9_workOutStep_92 : decode cX9_workOutStep 92 = .ok (.imul, 1) := by decide +kernel
theorem d_X9_workOutStep_93 : decode cX9_workOutStep 93 = .ok (.isub, 1) := by decide +kernel
theorem d_X9_workOutStep_94 : decode cX9_workOutStep 94 = .ok (.goto 5, 3) := by decide +kernel
theorem d_X9_workOutStep_97 : decode cX9_workOutStep 97 = .ok (.ldc 52, 2) := by decide +kernel
theorem d_X9_workOutStep_99 : decode cX9_workOutStep 99 = .ok (.iastore, 1) := by decide +kernel
theorem d_X9_workOutStep_100 : decode cX9_workOutStep 100 = .ok (.iinc 4 (-1), 3) := by decide +kernel
theorem d_X9_workOutStep_103 : decode cX9_workOutStep 103 = .ok (.goto (-87), 3) := by decide +kernel
theorem d_X9_workOutStep_106 : decode cX9_workOutStep 106 = .ok (.return_, 1) := by decide +kernel
theorem d_X9_costOnward_0 : decode cX9_costOnward 0 = .ok (.iload_n 2, 1) := by decide +kernel
theorem d_X9_costOnward_1 : decode cX9_costOnward 1 = .ok (.aload_n 0, 1) := by decide +kernel
theorem d_X9_costOnward_2 : decode cX9_costOnward 2 = .ok (.getfield 22, 3) := by decide +kernel
theorem d_X9_costOnward_5 : decode cX9_costOnward 5 = .ok (.iload_n 1, 1) := by decide +kernel
theorem d_X9_costOnward_6 : decode cX9_costOnward 6 = .ok (.iaload, 1) := by decide +kernel
theorem d_X9_costOnward_7 : decode cX9_costOnward 7 = .ok (.isub, 1) := by decide +kernel
theorem d_X9_costOnward_8 : decode cX9_costOnward 8 = .ok (.istore_n 3, 1) := by decide +kernel
theorem d_X9_costOnward_9 : decode cX9_costOnward 9 = .ok (.iload_n 3, 1) := by decide +kernel
theorem d_X9_costOnward_10 : decode cX9_costOnward 10 = .ok (.ifCond .ge 8, 3) := by decide +kernel
theorem d_X9_costOnward_13 : decode cX9_costOnward 13 = .ok (.ldc 52, 2) := by decide +kernel
theorem d_X9_costOnward_15 : decode cX9_costOnward 15 = .ok (.goto 16, 3) := by decide +kernel
theorem d_X9_costOnward_18 : decode cX9_costOnward 18 = .ok (.aload_n 0, 1) := by decide +kernel
theorem d_X9_costOnward_19 : decode cX9_costOnward 19 = .ok (.getfield 25, 3) := by decide +kernel
theorem d_X9_costOnward_22 : decode cX9_costOnward 22 = .ok (.iload_n 1, 1) := by decide +kernel
theorem d_X9_costOnward_23 : decode cX9_costOnward 23 = .ok (.iconst 1, 1) := by decide +kernel
theorem d_X9_costOnward_24 : decode cX9_costOnward 24 = .ok (.iadd, 1) := by decide +kernel
theorem d_X9_costOnward_25 : decode cX9_costOnward 25 = .ok (.bipush 100, 2) := by decide +kernel
theorem d_X9_costOnward_27 : decode cX9_costOnward 27 = .ok (.imul, 1) := by decide +kernel
theorem d_X9_costOnward_28 : decode cX9_costOnward 28 = .ok (.iload_n 3, 1) := by decide +kernel
theorem d_X9_costOnward_29 : decode cX9_costOnward 29 = .ok (.iadd, 1) := by decide +kernel
theorem d_X9_costOnward_30 : decode cX9_costOnward 30 = .ok (.iaload, 1) := by decide +kernel
theorem d_X9_costOnward_31 : decode cX9_costOnward 31 = .ok (.ireturn, 1) := by decide +kernel
theorem d_X9_leastCost_0 : decode cX9_leastCost 0 = .ok (.aload_n 0, 1) := by decide +kernel
theorem d_X9_leastCost_1 : decode cX9_leastCost 1 = .ok (.getfield 25, 3) := by decide +kernel
theorem d_X9_leastCost_4 : decode cX9_leastCost 4 = .ok (.iconst 0, 1) := by decide +kernel
theorem d_X9_leastCost_5 : decode cX9_leastCost 5 = .ok (.iaload, 1) := by decide +kernel
theorem d_X9_leastCost_6 : decode cX9_leastCost 6 = .ok (.ldc 52, 2) := by decide +kernel
theorem d_X9_leastCost_8 : decode cX9_leastCost 8 = .ok (.if_icmp .ne 7, 3) := by decide +kernel
theorem d_X9_leastCost_11 : decode cX9_leastCost 11 = .ok (.iconst (-1), 1) := by decide +kernel
theorem d_X9_leastCost_12 : decode cX9_leastCost 12 = .ok (.goto 9, 3) := by decide +kernel
theorem d_X9_leastCost_15 : decode cX9_leastCost 15 = .ok (.aload_n 0, 1) := by decide +kernel
theorem d_X9_leastCost_16 : decode cX9_leastCost 16 = .ok (.getfield 25, 3) := by decide +kernel
theorem d_X9_leastCost_19 : decode cX9_leastCost 19 = .ok (.iconst 0, 1) := by decide +kernel
theorem d_X9_leastCost_20 : decode cX9_leastCost 20 = .ok (.iaload, 1) := by decide +kernel
theorem d_X9_leastCost_21 : decode cX9_leastCost 21 = .ok (.ireturn, 1) := by decide +kernel
theorem d_X9_cordsAt_0 : decode cX9_cordsAt 0 = .ok (.iload_n 1, 1) := by decide +kernel
theorem d_X9_cordsAt_1 : decode cX9_cordsAt 1 = .ok (.iconst 0, 1) := by decide +kernel
theorem d_X9_cordsAt_2 : decode cX9_cordsAt 2 = .ok (.aload_n 0, 1) := by decide +kernel
theorem d_X9_cordsAt_3 : decode cX9_cordsAt 3 = .ok (.getfield 9, 3) := by decide +kernel
theorem d_X9_cordsAt_6 : decode cX9_cordsAt 6 = .ok (.iconst 1, 1) := by decide +kernel
theorem d_X9_cordsAt_7 : decode cX9_cordsAt 7 = .ok (.isub, 1) := by decide +kernel
theorem d_X9_cordsAt_8 : decode cX9_cordsAt 8 = .ok (.invokestatic 60, 3) := by decide +kernel
theorem d_X9_cordsAt_11 : decode cX9_cordsAt 11 = .ok (.ifCond .eq 14, 3) := by decide +kernel
theorem d_X9_cordsAt_14 : decode cX9_cordsAt 14 = .ok (.aload_n 0, 1) := by decide +kernel
theorem d_X9_cordsAt_15 : decode cX9_cordsAt 15 = .ok (.getfield 25, 3) := by decide +kernel
theorem d_X9_cordsAt_18 : decode cX9_cordsAt 18 = .ok (.iconst 0, 1) := by decide +kernel
theorem d_X9_cordsAt_19 : decode cX9_cordsAt 19 = .ok (.iaload, 1) := by decide +kernel
theorem d_X9_cordsAt_20 : decode cX9_cordsAt 20 = .ok (.ldc 52, 2) := by decide +kernel
theorem d_X9_cordsAt_22 : decode cX9_cordsAt 22 = .ok (.if_icmp .ne 5, 3) := by decide +kernel
theorem d_X9_cordsAt_25 : decode cX9_cordsAt 25 = .ok (.iconst (-1), 1) := by decide +kernel
theorem d_X9_cordsAt_26 : decode cX9_cordsAt 26 = .ok (.ireturn, 1) := by decide +kernel
theorem d_X9_cordsAt_27 : decode cX9_cordsAt 27 = .ok (.iconst 0, 1) := by decide +kernel
theorem d_X9_cordsAt_28 : decode cX9_cordsAt 28 = .ok (.istore_n 2, 1) := by decide +kernel
theorem d_X9_cordsAt_29 : decode cX9_cordsAt 29 = .ok (.iconst 0, 1) := by decide +kernel
theorem d_X9_cordsAt_30 : decode cX9_cordsAt 30 = .ok (.istore_n 3, 1) := by decide +kernel
theorem d_X9_cordsAt_31 : decode cX9_cordsAt 31 = .ok (.iload_n 3, 1) := by decide +kernel
theorem d_X9_cordsAt_32 : decode cX9_cordsAt 32 = .ok (.iload_n 1, 1) := by decide +kernel
theorem d_X9_cordsAt_33 : decode cX9_cordsAt 33 = .ok (.if_icmp .ge 25, 3) := by decide +kernel
theorem d_X9_cordsAt_36 : decode cX9_cordsAt 36 = .ok (.iload_n 2, 1) := by decide +kernel
theorem d_X9_cordsAt_37 : decode cX9_cordsAt 37 = .ok (.aload_n 0, 1) := by decide +kernel
theorem d_X9_cordsAt_38 : decode cX9_cordsAt 38 = .ok (.iload_n 3, 1) := by decide +kernel
theorem d_X9_cordsAt_39 : decode cX9_cordsAt 39 = .ok (.iload_n 2, 1) := by decide +kernel
theorem d_X9_cordsAt_40 : decode cX9_cordsAt 40 = .ok (.invokevirtual 64, 3) := by decide +kernel
theorem d_X9_cordsAt_43 : decode cX9_cordsAt 43 = .ok (.aload_n 0, 1) := by decide +kernel
theorem d_X9_cordsAt_44 : decode cX9_cordsAt 44 = .ok (.getfield 22, 3) := by decide +kernel
theorem d_X9_cordsAt_47 : decode cX9_cordsAt 47 = .ok (.iload_n 3, 1) := by decide +kernel
theorem d_X9_cordsAt_48 : decode cX9_cordsAt 48 = .ok (.iaload, 1) := by decide +kernel
theorem d_X9_cordsAt_49 : decode cX9_cordsAt 49 = .ok (.isub, 1) := by decide +kernel
theorem d_X9_cordsAt_50 : decode cX9_cordsAt 50 = .ok (.iadd, 1) := by decide +kernel
theorem d_X9_cordsAt_51 : decode cX9_cordsAt 51 = .ok (.istore_n 2, 1) := by decide +kernel
theorem d_X9_cordsAt_52 : decode cX9_cordsAt 52 = .ok (.iinc 3 1, 3) := by decide +kernel
theorem d_X9_cordsAt_55 : decode cX9_cordsAt 55 = .ok (.goto (-24), 3) := by decide +kernel
theorem d_X9_cordsAt_58 : decode cX9_cordsAt 58 = .ok (.aload_n 0, 1) := by decide +kernel
theorem d_X9_cordsAt_59 : decode cX9_cordsAt 59 = .ok (.iload_n 1, 1) := by decide +kernel
theorem d_X9_cordsAt_60 : decode cX9_cordsAt 60 = .ok (.iload_n 2, 1) := by decide +kernel
theorem d_X9_cordsAt_61 : decode cX9_cordsAt 61 = .ok (.invokevirtual 64, 3) := by decide +kernel
theorem d_X9_cordsAt_64 : decode cX9_cordsAt 64 = .ok (.ireturn, 1) := by decide +kernel
theorem d_X9_cordsFrom_0 : decode cX9_cordsFrom 0 = .ok (.aload_n 0, 1) := by decide +kernel
theorem d_X9_cordsFrom_1 : decode cX9_cordsFrom 1 = .ok (.getfield 25, 3) := by decide +kernel
theorem d_X9_cordsFrom_4 : decode cX9_cordsFrom 4 = .ok (.iload_n 1, 1) := by decide +kernel
theorem d_X9_cordsFrom_5 : decode cX9_cordsFrom 5 = .ok (.bipush 100, 2) := by decide +kernel
theorem d_X9_cordsFrom_7 : decode cX9_cordsFrom 7 = .ok (.imul, 1) := by decide +kernel
theorem d_X9_cordsFrom_8 : decode cX9_cordsFrom 8 = .ok (.iload_n 2, 1) := by decide +kernel
theorem d_X9_cordsFrom_9 : decode cX9_cordsFrom 9 = .ok (.iadd, 1) := by decide +kernel
theorem d_X9_cordsFrom_10 : decode cX9_cordsFrom 10 = .ok (.iaload, 1) := by decide +kernel
theorem d_X9_cordsFrom_11 : decode cX9_cordsFrom 11 = .ok (.istore_n 3, 1) := by decide +kernel
theorem d_X9_cordsFrom_12 : decode cX9_cordsFrom 12 = .ok (.iconst 0, 1) := by decide +kernel
theorem d_X9_cordsFrom_13 : decode cX9_cordsFrom 13 = .ok (.istore 4, 2) := by decide +kernel
theorem d_X9_cordsFrom_15 : decode cX9_cordsFrom 15 = .ok (.iload_n 2, 1) := by decide +kernel
theorem d_X9_cordsFrom_16 : decode cX9_cordsFrom 16 = .ok (.iload 4, 2) := by decide +kernel
theorem d_X9_cordsFrom_18 : decode cX9_cordsFrom 18 = .ok (.iadd, 1) := by decide +kernel
theorem d_X9_cordsFrom_19 : decode cX9_cordsFrom 19 = .ok (.aload_n 0, 1) := by decide +kernel
theorem d_X9_cordsFrom_20 : decode cX9_cordsFrom 20 = .ok (.getfield 15, 3) := by decide +kernel
theorem d_X9_cordsFrom_23 : decode cX9_cordsFrom 23 = .ok (.if_icmp .gt 46, 3) := by decide +kernel
theorem d_X9_cordsFrom_26 : decode cX9_cordsFrom 26 = .ok (.aload_n 0, 1) := by decide +kernel
theorem d_X9_cordsFrom_27 : decode cX9_cordsFrom 27 = .ok (.iload_n 1, 1) := by decide +kernel
theorem d_X9_cordsFrom_28 : decode cX9_cordsFrom 28 = .ok (.iload_n 2, 1) := by decide +kernel
theorem d_X9_cordsFrom_29 : decode cX9_cordsFrom 29 = .ok (.iload 4, 2) := by decide +kernel
theorem d_X9_cordsFrom_31 : decode cX9_cordsFrom 31 = .ok (.iadd, 1) := by decide +kernel
theorem d_X9_cordsFrom_32 : decode cX9_cordsFrom 32 = .ok (.invokevirtual 53, 3) := by decide +kernel
theorem d_X9_cordsFrom_35 : decode cX9_cordsFrom 35 = .ok (.istore 5, 2) := by decide +kernel
theorem d_X9_cordsFrom_37 : decode cX9_cordsFrom 37 = .ok (.iload 5, 2) := by decide +kernel
theorem d_X9_cordsFrom_39 : decode cX9_cordsFrom 39 = .ok (.ldc 52, 2) := by decide +kernel
theorem d_X9_cordsFrom_41 : decode cX9_cordsFrom 41 = .ok (.if_icmp .eq 22, 3) := by decide +kernel
theorem d_X9_cordsFrom_44 : decode cX9_cordsFrom 44 = .ok (.iload 5, 2) := by decide +kernel
theorem d_X9_cordsFrom_46 : decode cX9_cordsFrom 46 = .ok (.iload 4, 2) := by decide +kernel
theorem d_X9_cordsFrom_48 : decode cX9_cordsFrom 48 = .ok (.aload_n 0, 1) := by decide +kernel
theorem d_X9_cordsFrom_49 : decode cX9_cordsFrom 49 = .ok (.getfield 18, 3) := by decide +kernel
theorem d_X9_cordsFrom_52 : decode cX9_cordsFrom 52 = .ok (.iload_n 1, 1) := by decide +kernel
theorem d_X9_cordsFrom_53 : decode cX9_cordsFrom 53 = .ok (.iaload, 1) := by decide +kernel
theorem d_X9_cordsFrom_54 : decode cX9_cordsFrom 54 = .ok (.imul, 1) := by decide +kernel
theorem d_X9_cordsFrom_55 : decode cX9_cordsFrom 55 = .ok (.iadd, 1) := by decide +kernel
theorem d_X9_cordsFrom_56 : decode cX9_cordsFrom 56 = .ok (.iload_n 3, 1) := by decide +kernel
theorem d_X9_cordsFrom_57 : decode cX9_cordsFrom 57 = .ok (.if_icmp .ne 6, 3) := by decide +kernel
theorem d_X9_cordsFrom_60 : decode cX9_cordsFrom 60 = .ok (.iload 4, 2) := by decide +kernel
theorem d_X9_cordsFrom_62 : decode cX9_cordsFrom 62 = .ok (.ireturn, 1) := by decide +kernel
theorem d_X9_cordsFrom_63 : decode cX9_cordsFrom 63 = .ok (.iinc 4 1, 3) := by decide +kernel
theorem d_X9_cordsFrom_66 : decode cX9_cordsFrom 66 = .ok (.goto (-51), 3) := by decide +kernel
theorem d_X9_cordsFrom_69 : decode cX9_cordsFrom 69 = .ok (.iconst 0, 1) := by decide +kernel
theorem d_X9_cordsFrom_70 : decode cX9_cordsFrom 70 = .ok (.ireturn, 1) := by decide +kernel
theorem d_X10_init_0 : decode cX10_init 0 = .ok (.aload_n 0, 1) := by decide +kernel
theorem d_X10_init_1 : decode cX10_init 1 = .ok (.invokespecial 3, 3) := by decide +kernel
theorem d_X10_init_4 : decode cX10_init 4 = .ok (.aload_n 0, 1) := by decide +kernel
theorem d_X10_init_5 : decode cX10_init 5 = .ok (.bipush 10, 2) := by decide +kernel
theorem d_X10_init_7 : decode cX10_init 7 = .ok (.newarray .int, 2) := by decide +kernel
theorem d_X10_init_9 : decode cX10_init 9 = .ok (.putfield 9, 3) := by decide +kernel
theorem d_X10_init_12 : decode cX10_init 12 = .ok (.aload_n 0, 1) := by decide +kernel
theorem d_X10_init_13 : decode cX10_init 13 = .ok (.bipush 10, 2) := by decide +kernel
theorem d_X10_init_15 : decode cX10_init 15 = .ok (.newarray .int, 2) := by decide +kernel
theorem d_X10_init_17 : decode cX10_init 17 = .ok (.putfield 15, 3) := by decide +kernel
theorem d_X10_init_20 : decode cX10_init 20 = .ok (.aload_n 0, 1) := by decide +kernel
theorem d_X10_init_21 : decode cX10_init 21 = .ok (.getfield 15, 3) := by decide +kernel
theorem d_X10_init_24 : decode cX10_init 24 = .ok (.iconst (-1), 1) := by decide +kernel
theorem d_X10_init_25 : decode cX10_init 25 = .ok (.invokestatic 18, 3) := by decide +kernel
theorem d_X10_init_28 : decode cX10_init 28 = .ok (.return_, 1) := by decide +kernel
theorem d_X10_forgetAll_0 : decode cX10_forgetAll 0 = .ok (.aload_n 0, 1) := by decide +kernel
theorem d_X10_forgetAll_1 : decode cX10_forgetAll 1 = .ok (.getfield 15, 3) := by decide +kernel
theorem d_X10_forgetAll_4 : decode cX10_forgetAll 4 = .ok (.iconst (-1), 1) := by decide +kernel
theorem d_X10_forgetAll_5 : decode cX10_forgetAll 5 = .ok (.invokestatic 18, 3) := by decide +kernel
theorem d_X10_forgetAll_8 : decode cX10_forgetAll 8 = .ok (.return_, 1) := by decide +kernel
theorem d_X10_copyFrom_0 : decode cX10_copyFrom 0 = .ok (.aload_n 1, 1) := by decide +kernel
theorem d_X10_copyFrom_1 : decode cX10_copyFrom 1 = .ok (.getfield 9, 3) := by decide +kernel
theorem d_X10_copyFrom_4 : decode cX10_copyFrom 4 = .ok (.iconst 0, 1) := by decide +kernel
theorem d_X10_copyFrom_5 : decode cX10_copyFrom 5 = .ok (.aload_n 0, 1) := by decide +kernel
theorem d_X10_copyFrom_6 : decode cX10_copyFrom 6 = .ok (.getfield 9, 3) := by decide +kernel
theorem d_X10_copyFrom_9 : decode cX10_copyFrom 9 = .ok (.iconst 0, 1) := by decide +kernel
theorem d_X10_copyFrom_10 : decode cX10_copyFrom 10 = .ok (.bipush 10, 2) := by decide +kernel
theorem d_X10_copyFrom_12 : decode cX10_copyFrom 12 = .ok (.invokestatic 24, 3) := by decide +kernel
theorem d_X10_copyFrom_15 : decode cX10_copyFrom 15 = .ok (.aload_n 1, 1) := by decide +kernel
theorem d_X10_copyFrom_16 : decode cX10_copyFrom 16 = .ok (.getfield 15, 3) := by decide +kernel
theorem d_X10_copyFrom_19 : decode cX10_copyFrom 19 = .ok (.iconst 0, 1) := by decide +kernel
theorem d_X10_copyFrom_20 : decode cX10_copyFrom 20 = .ok (.aload_n 0, 1) := by decide +kernel
theorem d_X10_copyFrom_21 : decode cX10_copyFrom 21 = .ok (.getfield 15, 3) := by decide +kernel
theorem d_X10_copyFrom_24 : decode cX10_copyFrom 24 = .ok (.iconst 0, 1) := by decide +kernel
theorem d_X10_copyFrom_25 : decode cX10_copyFrom 25 = .ok (.bipush 10, 2) := by decide +kernel
theorem d_X10_copyFrom_27 : decode cX10_copyFrom 27 = .ok (.invokestatic 24, 3) := by decide +kernel
theorem d_X10_copyFrom_30 : decode cX10_copyFrom 30 = .ok (.return_, 1) := by decide +kernel
theorem d_X10_isKnown_0 : decode cX10_isKnown 0 = .ok (.aload_n 0, 1) := by decide +kernel
theorem d_X10_isKnown_1 : decode cX10_isKnown 1 = .ok (.getfield 15, 3) := by decide +kernel
theorem d_X10_isKnown_4 : decode cX10_isKnown 4 = .ok (.iload_n 1, 1) := by decide +kernel
theorem d_X10_isKnown_5 : decode cX10_isKnown 5 = .ok (.iaload, 1) := by decide +kernel
theorem d_X10_isKnown_6 : decode cX10_isKnown 6 = .ok (.iconst (-1), 1) := by decide +kernel
theorem d_X10_isKnown_7 : decode cX10_isKnown 7 = .ok (.if_icmp .eq 7, 3) := by decide +kernel
theorem d_X10_isKnown_10 : decode cX10_isKnown 10 = .ok (.iconst 1, 1) := by decide +kernel
theorem d_X10_isKnown_11 : decode cX10_isKnown 11 = .ok (.goto 4, 3) := by decide +kernel
theorem d_X10_isKnown_14 : decode cX10_isKnown 14 = .ok (.iconst 0, 1) := by decide +kernel
theorem d_X10_isKnown_15 : decode cX10_isKnown 15 = .ok (.ireturn, 1) := by decide +kernel
theorem d_X10_learn_0 : decode cX10_learn 0 = .ok (.aload_n 0, 1) := by decide +kernel
theorem d_X10_learn_1 : decode cX10_learn 1 = .ok (.getfield 9, 3) := by decide +kernel
theorem d_X10_learn_4 : decode cX10_learn 4 = .ok (.iload_n 1, 1) := by decide +kernel
theorem d_X10_learn_5 : decode cX10_learn 5 = .ok (.iload_n 2, 1) := by decide +kernel
theorem d_X10_learn_6 : decode cX10_learn 6 = .ok (.iastore, 1) := by decide +kernel
theorem d_X10_learn_7 : decode cX10_learn 7 = .ok (.aload_n 0, 1) := by decide +kernel
theorem d_X10_learn_8 : decode cX10_learn 8 = .ok (.getfield 15, 3) := by decide +kernel
theorem d_X10_learn_11 : decode cX10_learn 11 = .ok (.iload_n 1, 1) := by decide +kernel
theorem d_X10_learn_12 : decode cX10_learn 12 = .ok (.iload_n 3, 1) := by decide +kernel
theorem d_X10_learn_13 : decode cX10_learn 13 = .ok (.iastore, 1) := by decide +kernel
theorem d_X10_learn_14 : decode cX10_learn 14 = .ok (.return_, 1) := by decide +kernel
theorem d_X10_exchange_0 : decode cX10_exchange 0 = .ok (.iconst 0, 1) := by decide +kernel
theorem d_X10_exchange_1 : decode cX10_exchange 1 = .ok (.istore_n 2, 1) := by decide +kernel
theorem d_X10_exchange_2 : decode cX10_exchange 2 = .ok (.iload_n 2, 1) := by decide +kernel
theorem d_X10_exchange_3 : decode cX10_exchange 3 = .ok (.bipush 10, 2) := by decide +kernel
theorem d_X10_exchange_5 : decode cX10_exchange 5 = .ok (.if_icmp .ge 76, 3) := by decide +kernel
theorem d_X10_exchange_8 : decode cX10_exchange 8 = .ok (.aload_n 0, 1) := by decide +kernel
theorem d_X10_exchange_9 : decode cX10_exchange 9 = .ok (.getfield 15, 3) := by decide +kernel
theorem d_X10_exchange_12 : decode cX10_exchange 12 = .ok (.iload_n 2, 1) := by decide +kernel
theorem d_X10_exchange_13 : decode cX10_exchange 13 = .ok (.iaload, 1) := by decide +kernel
theorem d_X10_exchange_14 : decode cX10_exchange 14 = .ok (.aload_n 1, 1) := by decide +kernel
theorem d_X10_exchange_15 : decode cX10_exchange 15 = .ok (.getfield 15, 3) := by decide +kernel
theorem d_X10_exchange_18 : decode cX10_exchange 18 = .ok (.iload_n 2, 1) := by decide +kernel
theorem d_X10_exchange_19 : decode cX10_exchange 19 = .ok (.iaload, 1) := by decide +kernel
theorem d_X10_exchange_20 : decode cX10_exchange 20 = .ok (.if_icmp .le 23, 3) := by decide +kernel
theorem d_X10_exchange_23 : decode cX10_exchange 23 = .ok (.aload_n 1, 1) := by decide +kernel
theorem d_X10_exchange_24 : decode cX10_exchange 24 = .ok (.iload_n 2, 1) := by decide +kernel
theorem d_X10_exchange_25 : decode cX10_exchange 25 = .ok (.aload_n 0, 1) := by decide +kernel
theorem d_X10_exchange_26 : decode cX10_exchange 26 = .ok (.getfield 9, 3) := by decide +kernel
theorem d_X10_exchange_29 : decode cX10_exchange 29 = .ok (.iload_n 2, 1) := by decide +kernel
theorem d_X10_exchange_30 : decode cX10_exchange 30 = .ok (.iaload, 1) := by decide +kernel
theorem d_X10_exchange_31 : decode cX10_exchange 31 = .ok (.aload_n 0, 1) := by decide +kernel
theorem d_X10_exchange_32 : decode cX10_exchange 32 = .ok (.getfield 15, 3) := by decide +kernel
theorem d_X10_exchange_35 : decode cX10_exchange 35 = .ok (.iload_n 2, 1) := by decide +kernel
theorem d_X10_exchange_36 : decode cX10_exchange 36 = .ok (.iaload, 1) := by decide +kernel
theorem d_X10_exchange_37 : decode cX10_exchange 37 = .ok (.invokevirtual 30, 3) := by decide +kernel
theorem d_X10_exchange_40 : decode cX10_exchange 40 = .ok (.goto 35, 3) := by decide +kernel
theorem d_X10_exchange_43 : decode cX10_exchange 43 = .ok (.aload_n 0, 1) := by decide +kernel
theorem d_X10_exchange_44 : decode cX10_exchange 44 = .ok (.getfield 15, 3) := by decide +kernel
theorem d_X10_exchange_47 : decode cX10_exchange 47 = .ok (.iload_n 2, 1) := by decide +kernel
theorem d_X10_exchange_48 : decode cX10_exchange 48 = .ok (.iaload, 1) := by decide +kernel
theorem d_X10_exchange_49 : decode cX10_exchange 49 = .ok (.aload_n 1, 1) := by decide +kernel
theorem d_X10_exchange_50 : decode cX10_exchange 50 = .ok (.getfield 15, 3) := by decide +kernel
theorem d_X10_exchange_53 : decode cX10_exchange 53 = .ok (.iload_n 2, 1) := by decide +kernel
theorem d_X10_exchange_54 : decode cX10_exchange 54 = .ok (.iaload, 1) := by decide +kernel
theorem d_X10_exchange_55 : decode cX10_exchange 55 = .ok (.if_icmp .ge 20, 3) := by decide +kernel
theorem d_X10_exchange_58 : decode cX10_exchange 58 = .ok (.aload_n 0, 1) := by decide +kernel
theorem d_X10_exchange_59 : decode cX10_exchange 59 = .ok (.iload_n 2, 1) := by decide +kernel
theorem d_X10_exchange_60 : decode cX10_exchange 60 = .ok (.aload_n 1, 1) := by decide +kernel
theorem d_X10_exchange_61 : decode cX10_exchange 61 = .ok (.getfield 9, 3) := by decide +kernel
theorem d_X10_exchange_64 : decode cX10_exchange 64 = .ok (.iload_n 2, 1) := by decide +kernel
theorem d_X10_exchange_65 : decode cX10_exchange 65 = .ok (.iaload, 1) := by decide +kernel
theorem d_X10_exchange_66 : decode cX10_exchange 66 = .ok (.aload_n 1, 1) := by decide +kernel
theorem d_X10_exchange_67 : decode cX10_exchange 67 = .ok (.getfield 15, 3) := by decide +kernel
theorem d_X10_exchange_70 : decode cX10_exchange 70 = .ok (.iload_n 2, 1) := by decide +kernel
theorem d_X10_exchange_71 : decode cX10_exchange 71 = .ok (.iaload, 1) := by decide +kernel
theorem d_X10_exchange_72 : decode cX10_exchange 72 = .ok (.invokevirtual 30, 3) := by decide +kernel
theorem d_X10_exchange_75 : decode cX10_exchange 75 = .ok (.iinc 2 1, 3) := by decide +kernel
theorem d_X10_exchange_78 : decode cX10_exchange 78 = .ok (.goto (-76), 3) := by decide +kernel
theorem d_X10_exchange_81 : decode cX10_exchange 81 = .ok (.return_, 1) := by decide +kernel
theorem d_X10_toldOf_0 : decode cX10_toldOf 0 = .ok (.aload_n 0, 1) := by decide +kernel
theorem d_X10_toldOf_1 : decode cX10_toldOf 1 = .ok (.iload_n 1, 1) := by decide +kernel
theorem d_X10_toldOf_2 : decode cX10_toldOf 2 = .ok (.invokevirtual 34, 3) := by decide +kernel
theorem d_X10_toldOf_5 : decode cX10_toldOf 5 = .ok (.ifCond .eq 12, 3) := by decide +kernel
theorem d_X10_toldOf_8 : decode cX10_toldOf 8 = .ok (.iload_n 2, 1) := by decide +kernel
theorem d_X10_toldOf_9 : decode cX10_toldOf 9 = .ok (.iconst 0, 1) := by decide +kernel
theorem d_X10_toldOf_10 : decode cX10_toldOf 10 = .ok (.iconst 1, 1) := by decide +kernel
theorem d_X10_toldOf_11 : decode cX10_toldOf 11 = .ok (.invokestatic 38, 3) := by decide +kernel
theorem d_X10_toldOf_14 : decode cX10_toldOf 14 = .ok (.ifCond .ne 7, 3) := by decide +kernel
theorem d_X10_toldOf_17 : decode cX10_toldOf 17 = .ok (.sipush (-1000), 3) := by decide +kernel
theorem d_X10_toldOf_20 : decode cX10_toldOf 20 = .ok (.ireturn, 1) := by decide +kernel
theorem d_X10_toldOf_21 : decode cX10_toldOf 21 = .ok (.iload_n 2, 1) := by decide +kernel
theorem d_X10_toldOf_22 : decode cX10_toldOf 22 = .ok (.ifCond .ne 12, 3) := by decide +kernel
theorem d_X10_toldOf_25 : decode cX10_toldOf 25 = .ok (.aload_n 0, 1) := by decide +kernel
theorem d_X10_toldOf_26 : decode cX10_toldOf 26 = .ok (.getfield 9, 3) := by decide +kernel
theorem d_X10_toldOf_29 : decode cX10_toldOf 29 = .ok (.iload_n 1, 1) := by decide +kernel
theorem d_X10_toldOf_30 : decode cX10_toldOf 30 = .ok (.iaload, 1) := by decide +kernel
theorem d_X10_toldOf_31 : decode cX10_toldOf 31 = .ok (.goto 9, 3) := by decide +kernel
theorem d_X10_toldOf_34 : decode cX10_toldOf 34 = .ok (.aload_n 0, 1) := by decide +kernel
theorem d_X10_toldOf_35 : decode cX10_toldOf 35 = .ok (.getfield 15, 3) := by decide +kernel
theorem d_X10_toldOf_38 : decode cX10_toldOf 38 = .ok (.iload_n 1, 1) := by decide +kernel
theorem d_X10_toldOf_39 : decode cX10_toldOf 39 = .ok (.iaload, 1) := by decide +kernel
theorem d_X10_toldOf_40 : decode cX10_toldOf 40 = .ok (.ireturn, 1) := by decide +kernel
theorem d_J_abs_0 : decode cJ_abs 0 = .ok (.iload_n 0, 1) := by decide +kernel
theorem d_J_abs_1 : decode cJ_abs 1 = .ok (.ifCond .ge 8, 3) := by decide +kernel
theorem d_J_abs_4 : decode cJ_abs 4 = .ok (.iload_n 0, 1) := by decide +kernel
theorem d_J_abs_5 : decode cJ_abs 5 = .ok (.ineg, 1) := by decide +kernel
theorem d_J_abs_6 : decode cJ_abs 6 = .ok (.goto 4, 3) := by decide +kernel
theorem d_J_abs_9 : decode cJ_abs 9 = .ok (.iload_n 0, 1) := by decide +kernel
theorem d_J_abs_10 : decode cJ_abs 10 = .ok (.ireturn, 1) := by decide +kernel
theorem d_J_max_0 : decode cJ_max 0 = .ok (.iload_n 0, 1) := by decide +kernel
theorem d_J_max_1 : decode cJ_max 1 = .ok (.iload_n 1, 1) := by decide +kernel
theorem d_J_max_2 : decode cJ_max 2 = .ok (.if_icmp .lt 7, 3) := by decide +kernel
theorem d_J_max_5 : decode cJ_max 5 = .ok (.iload_n 0, 1) := by decide +kernel
theorem d_J_max_6 : decode cJ_max 6 = .ok (.goto 4, 3) := by decide +kernel
theorem d_J_max_9 : decode cJ_max 9 = .ok (.iload_n 1, 1) := by decide +kernel
theorem d_J_max_10 : decode cJ_max 10 = .ok (.ireturn, 1) := by decide +kernel
theorem d_J_min_0 : decode cJ_min 0 = .ok (.iload_n 0, 1) := by decide +kernel
theorem d_J_min_1 : decode cJ_min 1 = .ok (.iload_n 1, 1) := by decide +kernel
theorem d_J_min_2 : decode cJ_min 2 = .ok (.if_icmp .gt 7, 3) := by decide +kernel
theorem d_J_min_5 : decode cJ_min 5 = .ok (.iload_n 0, 1) := by decide +kernel
theorem d_J_min_6 : decode cJ_min 6 = .ok (.goto 4, 3) := by decide +kernel
theorem d_J_min_9 : decode cJ_min 9 = .ok (.iload_n 1, 1) := by decide +kernel
theorem d_J_min_10 : decode cJ_min 10 = .ok (.ireturn, 1) := by decide +kernel
theorem d_J_floorMod_0 : decode cJ_floorMod 0 = .ok (.iload_n 0, 1) := by decide +kernel
theorem d_J_floorMod_1 : decode cJ_floorMod 1 = .ok (.iload_n 1, 1) := by decide +kernel
theorem d_J_floorMod_2 : decode cJ_floorMod 2 = .ok (.irem, 1) := by decide +kernel
theorem d_J_floorMod_3 : decode cJ_floorMod 3 = .ok (.istore_n 2, 1) := by decide +kernel
theorem d_J_floorMod_4 : decode cJ_floorMod 4 = .ok (.iload_n 0, 1) := by decide +kernel
theorem d_J_floorMod_5 : decode cJ_floorMod 5 = .ok (.iload_n 1, 1) := by decide +kernel
theorem d_J_floorMod_6 : decode cJ_floorMod 6 = .ok (.ixor, 1) := by decide +kernel
theorem d_J_floorMod_7 : decode cJ_floorMod 7 = .ok (.ifCond .ge 11, 3) := by decide +kernel
theorem d_J_floorMod_10 : decode cJ_floorMod 10 = .ok (.iload_n 2, 1) := by decide +kernel
theorem d_J_floorMod_11 : decode cJ_floorMod 11 = .ok (.ifCond .eq 7, 3) := by decide +kernel
theorem d_J_floorMod_14 : decode cJ_floorMod 14 = .ok (.iload_n 2, 1) := by decide +kernel
theorem d_J_floorMod_15 : decode cJ_floorMod 15 = .ok (.iload_n 1, 1) := by decide +kernel
theorem d_J_floorMod_16 : decode cJ_floorMod 16 = .ok (.iadd, 1) := by decide +kernel
theorem d_J_floorMod_17 : decode cJ_floorMod 17 = .ok (.ireturn, 1) := by decide +kernel
theorem d_J_floorMod_18 : decode cJ_floorMod 18 = .ok (.iload_n 2, 1) := by decide +kernel
theorem d_J_floorMod_19 : decode cJ_floorMod 19 = .ok (.ireturn, 1) := by decide +kernel
theorem d_J_fill_0 : decode cJ_fill 0 = .ok (.iconst 0, 1) := by decide +kernel
theorem d_J_fill_1 : decode cJ_fill 1 = .ok (.istore_n 2, 1) := by decide +kernel
theorem d_J_fill_2 : decode cJ_fill 2 = .ok (.aload_n 0, 1) := by decide +kernel
theorem d_J_fill_3 : decode cJ_fill 3 = .ok (.arraylength, 1) := by decide +kernel
theorem d_J_fill_4 : decode cJ_fill 4 = .ok (.istore_n 3, 1) := by decide +kernel
theorem d_J_fill_5 : decode cJ_fill 5 = .ok (.iload_n 2, 1) := by decide +kernel
theorem d_J_fill_6 : decode cJ_fill 6 = .ok (.iload_n 3, 1) := by decide +kernel
theorem d_J_fill_7 : decode cJ_fill 7 = .ok (.if_icmp .ge 13, 3) := by decide +kernel
theorem d_J_fill_10 : decode cJ_fill 10 = .ok (.aload_n 0, 1) := by decide +kernel
theorem d_J_fill_11 : decode cJ_fill 11 = .ok (.iload_n 2, 1) := by decide +kernel
theorem d_J_fill_12 : decode cJ_fill 12 = .ok (.iload_n 1, 1) := by decide +kernel
theorem d_J_fill_13 : decode cJ_fill 13 = .ok (.iastore, 1) := by decide +kernel
theorem d_J_fill_14 : decode cJ_fill 14 = .ok (.iinc 2 1, 3) := by decide +kernel
theorem d_J_fill_17 : decode cJ_fill 17 = .ok (.goto (-12), 3) := by decide +kernel
theorem d_J_fill_20 : decode cJ_fill 20 = .ok (.return_, 1) := by decide +kernel
theorem d_J_bitCount_0 : decode cJ_bitCount 0 = .ok (.iload_n 0, 1) := by decide +kernel
theorem d_J_bitCount_1 : decode cJ_bitCount 1 = .ok (.iload_n 0, 1) := by decide +kernel
theorem d_J_bitCount_2 : decode cJ_bitCount 2 = .ok (.iconst 1, 1) := by decide +kernel
theorem d_J_bitCount_3 : decode cJ_bitCount 3 = .ok (.iushr, 1) := by decide +kernel
theorem d_J_bitCount_4 : decode cJ_bitCount 4 = .ok (.ldc_w 265, 3) := by decide +kernel
theorem d_J_bitCount_7 : decode cJ_bitCount 7 = .ok (.iand, 1) := by decide +kernel
theorem d_J_bitCount_8 : decode cJ_bitCount 8 = .ok (.isub, 1) := by decide +kernel
theorem d_J_bitCount_9 : decode cJ_bitCount 9 = .ok (.istore_n 0, 1) := by decide +kernel
theorem d_J_bitCount_10 : decode cJ_bitCount 10 = .ok (.iload_n 0, 1) := by decide +kernel
theorem d_J_bitCount_11 : decode cJ_bitCount 11 = .ok (.ldc_w 266, 3) := by decide +kernel
theorem d_J_bitCount_14 : decode cJ_bitCount 14 = .ok (.iand, 1) := by decide +kernel
theorem d_J_bitCount_15 : decode cJ_bitCount 15 = .ok (.iload_n 0, 1) := by decide +kernel
theorem d_J_bitCount_16 : decode cJ_bitCount 16 = .ok (.iconst 2, 1) := by decide +kernel
theorem d_J_bitCount_17 : decode cJ_bitCount 17 = .ok (.iushr, 1) := by decide +kernel
theorem d_J_bitCount_18 : decode cJ_bitCount 18 = .ok (.ldc_w 266, 3) := by decide +kernel
theorem d_J_bitCount_21 : decode cJ_bitCount 21 = .ok (.iand, 1) := by decide +kernel
theorem d_J_bitCount_22 : decode cJ_bitCount 22 = .ok (.iadd, 1) := by decide +kernel
theorem d_J_bitCount_23 : decode cJ_bitCount 23 = .ok (.istore_n 0, 1) := by decide +kernel
theorem d_J_bitCount_24 : decode cJ_bitCount 24 = .ok (.iload_n 0, 1) := by decide +kernel
theorem d_J_bitCount_25 : decode cJ_bitCount 25 = .ok (.iload_n 0, 1) := by decide +kernel
theorem d_J_bitCount_26 : decode cJ_bitCount 26 = .ok (.iconst 4, 1) := by decide +kernel
theorem d_J_bitCount_27 : decode cJ_bitCount 27 = .ok (.iushr, 1) := by decide +kernel
theorem d_J_bitCount_28 : decode cJ_bitCount 28 = .ok (.iadd, 1) := by decide +kernel
theorem d_J_bitCount_29 : decode cJ_bitCount 29 = .ok (.ldc_w 267, 3) := by decide +kernel
theorem d_J_bitCount_32 : decode cJ_bitCount 32 = .ok (.iand, 1) := by decide +kernel
theorem d_J_bitCount_33 : decode cJ_bitCount 33 = .ok (.istore_n 0, 1) := by decide +kernel
theorem d_J_bitCount_34 : decode cJ_bitCount 34 = .ok (.iload_n 0, 1) := by decide +kernel
theorem d_J_bitCount_35 : decode cJ_bitCount 35 = .ok (.iload_n 0, 1) := by decide +kernel
theorem d_J_bitCount_36 : decode cJ_bitCount 36 = .ok (.bipush 8, 2) := by decide +kernel
theorem d_J_bitCount_38 : decode cJ_bitCount 38 = .ok (.iushr, 1) := by decide +kernel
theorem d_J_bitCount_39 : decode cJ_bitCount 39 = .ok (.iadd, 1) := by decide +kernel
theorem d_J_bitCount_40 : decode cJ_bitCount 40 = .ok (.istore_n 0, 1) := by decide +kernel
theorem d_J_bitCount_41 : decode cJ_bitCount 41 = .ok (.iload_n 0, 1) := by decide +kernel
theorem d_J_bitCount_42 : decode cJ_bitCount 42 = .ok (.iload_n 0, 1) := by decide +kernel
theorem d_J_bitCount_43 : decode cJ_bitCount 43 = .ok (.bipush 16, 2) := by decide +kernel
theorem d_J_bitCount_45 : decode cJ_bitCount 45 = .ok (.iushr, 1) := by decide +kernel
theorem d_J_bitCount_46 : decode cJ_bitCount 46 = .ok (.iadd, 1) := by decide +kernel
theorem d_J_bitCount_47 : decode cJ_bitCount 47 = .ok (.istore_n 0, 1) := by decide +kernel
theorem d_J_bitCount_48 : decode cJ_bitCount 48 = .ok (.iload_n 0, 1) := by decide +kernel
theorem d_J_bitCount_49 : decode cJ_bitCount 49 = .ok (.bipush 63, 2) := by decide +kernel
theorem d_J_bitCount_51 : decode cJ_bitCount 51 = .ok (.iand, 1) := by decide +kernel
theorem d_J_bitCount_52 : decode cJ_bitCount 52 = .ok (.ireturn, 1) := by decide +kernel
end
section
theorem d_X11_init_0 : decode cX11_init 0 = .ok (.aload_n 0, 1) := by decide +kernel
theorem d_X11_init_1 : decode cX11_init 1 = .ok (.invokespecial 1, 3) := by decide +kernel
theorem d_X11_init_4 : decode cX11_init 4 = .ok (.aload_n 0, 1) := by decide +kernel
theorem d_X11_init_5 : decode cX11_init 5 = .ok (.new 7, 3) := by decide +kernel
theorem d_X11_init_8 : decode cX11_init 8 = .ok (.dup, 1) := by decide +kernel
theorem d_X11_init_9 : decode cX11_init 9 = .ok (.invokespecial 9, 3) := by decide +kernel
theorem d_X11_init_12 : decode cX11_init 12 = .ok (.putfield 10, 3) := by decide +kernel
theorem d_X11_init_15 : decode cX11_init 15 = .ok (.aload_n 0, 1) := by decide +kernel
theorem d_X11_init_16 : decode cX11_init 16 = .ok (.aconst_null, 1) := by decide +kernel
theorem d_X11_init_17 : decode cX11_init 17 = .ok (.putfield 16, 3) := by decide +kernel
theorem d_X11_init_20 : decode cX11_init 20 = .ok (.aload_n 0, 1) := by decide +kernel
theorem d_X11_init_21 : decode cX11_init 21 = .ok (.iconst 0, 1) := by decide +kernel
theorem d_X11_init_22 : decode cX11_init 22 = .ok (.putfield 19, 3) := by decide +kernel
theorem d_X11_init_25 : decode cX11_init 25 = .ok (.aload_n 0, 1) := by decide +kernel
theorem d_X11_init_26 : decode cX11_init 26 = .ok (.iconst 0, 1) := by decide +kernel
theorem d_X11_init_27 : decode cX11_init 27 = .ok (.putfield 23, 3) := by decide +kernel
theorem d_X11_init_30 : decode cX11_init 30 = .ok (.aload_n 0, 1) := by decide +kernel
theorem d_X11_init_31 : decode cX11_init 31 = .ok (.iconst 4, 1) := by decide +kernel
theorem d_X11_init_32 : decode cX11_init 32 = .ok (.anewarray 26, 3) := by decide +kernel
theorem d_X11_init_35 : decode cX11_init 35 = .ok (.putfield 28, 3) := by decide +kernel
theorem d_X11_init_38 : decode cX11_init 38 = .ok (.aload_n 0, 1) := by decide +kernel
theorem d_X11_init_39 : decode cX11_init 39 = .ok (.new 32, 3) := by decide +kernel
theorem d_X11_init_42 : decode cX11_init 42 = .ok (.dup, 1) := by decide +kernel
theorem d_X11_init_43 : decode cX11_init 43 = .ok (.invokespecial 34, 3) := by decide +kernel
theorem d_X11_init_46 : decode cX11_init 46 = .ok (.putfield 35, 3) := by decide +kernel
theorem d_X11_init_49 : decode cX11_init 49 = .ok (.aload_n 0, 1) := by decide +kernel
theorem d_X11_init_50 : decode cX11_init 50 = .ok (.new 39, 3) := by decide +kernel
theorem d_X11_init_53 : decode cX11_init 53 = .ok (.dup, 1) := by decide +kernel
theorem d_X11_init_54 : decode cX11_init 54 = .ok (.invokespecial 41, 3) := by decide +kernel
theorem d_X11_init_57 : decode cX11_init 57 = .ok (.putfield 42, 3) := by decide +kernel
theorem d_X11_init_60 : decode cX11_init 60 = .ok (.aload_n 0, 1) := by decide +kernel
theorem d_X11_init_61 : decode cX11_init 61 = .ok (.bipush 12, 2) := by decide +kernel
theorem d_X11_init_63 : decode cX11_init 63 = .ok (.newarray .int, 2) := by decide +kernel
theorem d_X11_init_65 : decode cX11_init 65 = .ok (.putfield 46, 3) := by decide +kernel
theorem d_X11_init_68 : decode cX11_init 68 = .ok (.iconst 0, 1) := by decide +kernel
theorem d_X11_init_69 : decode cX11_init 69 = .ok (.istore_n 1, 1) := by decide +kernel
theorem d_X11_init_70 : decode cX11_init 70 = .ok (.iload_n 1, 1) := by decide +kernel
theorem d_X11_init_71 : decode cX11_init 71 = .ok (.iconst 4, 1) := by decide +kernel
theorem d_X11_init_72 : decode cX11_init 72 = .ok (.if_icmp .ge 22, 3) := by decide +kernel
theorem d_X11_init_75 : decode cX11_init 75 = .ok (.aload_n 0, 1) := by decide +kernel
theorem d_X11_init_76 : decode cX11_init 76 = .ok (.getfield 28, 3) := by decide +kernel
theorem d_X11_init_79 : decode cX11_init 79 = .ok (.iload_n 1, 1) := by decide +kernel
theorem d_X11_init_80 : decode cX11_init 80 = .ok (.new 26, 3) := by decide +kernel
theorem d_X11_init_83 : decode cX11_init 83 = .ok (.dup, 1) := by decide +kernel
theorem d_X11_init_84 : decode cX11_init 84 = .ok (.invokespecial 50, 3) := by decide +kernel
theorem d_X11_init_87 : decode cX11_init 87 = .ok (.aastore, 1) := by decide +kernel
theorem d_X11_init_88 : decode cX11_init 88 = .ok (.iinc 1 1, 3) := by decide +kernel
theorem d_X11_init_91 : decode cX11_init 91 = .ok (.goto (-21), 3) := by decide +kernel
theorem d_X11_init_94 : decode cX11_init 94 = .ok (.return_, 1) := by decide +kernel
theorem d_X11_stretch_0 : decode cX11_stretch 0 = .ok (.iload_n 1, 1) := by decide +kernel
theorem d_X11_stretch_1 : decode cX11_stretch 1 = .ok (.iconst 0, 1) := by decide +kernel
theorem d_X11_stretch_2 : decode cX11_stretch 2 = .ok (.iconst 5, 1) := by decide +kernel
theorem d_X11_stretch_3 : decode cX11_stretch 3 = .ok (.invokestatic 51, 3) := by decide +kernel
theorem d_X11_stretch_6 : decode cX11_stretch 6 = .ok (.ifCond .eq 23, 3) := by decide +kernel
theorem d_X11_stretch_9 : decode cX11_stretch 9 = .ok (.iload_n 2, 1) := by decide +kernel
theorem d_X11_stretch_10 : decode cX11_stretch 10 = .ok (.iconst 1, 1) := by decide +kernel
theorem d_X11_stretch_11 : decode cX11_stretch 11 = .ok (.bipush 20, 2) := by decide +kernel
theorem d_X11_stretch_13 : decode cX11_stretch 13 = .ok (.invokestatic 51, 3) := by decide +kernel
theorem d_X11_stretch_16 : decode cX11_stretch 16 = .ok (.ifCond .eq 13, 3) := by decide +kernel
theorem d_X11_stretch_19 : decode cX11_stretch 19 = .ok (.iload_n 3, 1) := by decide +kernel
theorem d_X11_stretch_20 : decode cX11_stretch 20 = .ok (.iconst 0, 1) := by decide +kernel
theorem d_X11_stretch_21 : decode cX11_stretch 21 = .ok (.bipush 99, 2) := by decide +kernel
theorem d_X11_stretch_23 : decode cX11_stretch 23 = .ok (.invokestatic 51, 3) := by decide +kernel
theorem d_X11_stretch_26 : decode cX11_stretch 26 = .ok (.ifCond .ne 9, 3) := by decide +kernel
theorem d_X11_stretch_29 : decode cX11_stretch 29 = .ok (.aload_n 0, 1) := by decide +kernel
theorem d_X11_stretch_30 : decode cX11_stretch 30 = .ok (.iconst 1, 1) := by decide +kernel
theorem d_X11_stretch_31 : decode cX11_stretch 31 = .ok (.invokevirtual 55, 3) := by decide +kernel
theorem d_X11_stretch_34 : decode cX11_stretch 34 = .ok (.ireturn, 1) := by decide +kernel
theorem d_X11_stretch_35 : decode cX11_stretch 35 = .ok (.aload_n 0, 1) := by decide +kernel
theorem d_X11_stretch_36 : decode cX11_stretch 36 = .ok (.getfield 10, 3) := by decide +kernel
theorem d_X11_stretch_39 : decode cX11_stretch 39 = .ok (.getfield 59, 3) := by decide +kernel
theorem d_X11_stretch_42 : decode cX11_stretch 42 = .ok (.bipush 10, 2) := by decide +kernel
theorem d_X11_stretch_44 : decode cX11_stretch 44 = .ok (.if_icmp .lt 9, 3) := by decide +kernel
theorem d_X11_stretch_47 : decode cX11_stretch 47 = .ok (.aload_n 0, 1) := by decide +kernel
theorem d_X11_stretch_48 : decode cX11_stretch 48 = .ok (.iconst 2, 1) := by decide +kernel
theorem d_X11_stretch_49 : decode cX11_stretch 49 = .ok (.invokevirtual 55, 3) := by decide +kernel
theorem d_X11_stretch_52 : decode cX11_stretch 52 = .ok (.ireturn, 1) := by decide +kernel
theorem d_X11_stretch_53 : decode cX11_stretch 53 = .ok (.aload_n 0, 1) := by decide +kernel
theorem d_X11_stretch_54 : decode cX11_stretch 54 = .ok (.getfield 10, 3) := by decide +kernel
theorem d_X11_stretch_57 : decode cX11_stretch 57 = .ok (.dup, 1) := by decide +kernel
theorem d_X11_stretch_58 : decode cX11_stretch 58 = .ok (.getfield 59, 3) := by decide +kernel
theorem d_X11_stretch_61 : decode cX11_stretch 61 = .ok (.dup_x1, 1) := by decide +kernel
theorem d_X11_stretch_62 : decode cX11_stretch 62 = .ok (.iconst 1, 1) := by decide +kernel
theorem d_X11_stretch_63 : decode cX11_stretch 63 = .ok (.iadd, 1) := by decide +kernel
theorem d_X11_stretch_64 : decode cX11_stretch 64 = .ok (.putfield 59, 3) := by decide +kernel
theorem d_X11_stretch_67 : decode cX11_stretch 67 = .ok (.istore 4, 2) := by decide +kernel
theorem d_X11_stretch_69 : decode cX11_stretch 69 = .ok (.aload_n 0, 1) := by decide +kernel
theorem d_X11_stretch_70 : decode cX11_stretch 70 = .ok (.getfield 10, 3) := by decide +kernel
theorem d_X11_stretch_73 : decode cX11_stretch 73 = .ok (.getfield 62, 3) := by decide +kernel
theorem d_X11_stretch_76 : decode cX11_stretch 76 = .ok (.iload 4, 2) := by decide +kernel
theorem d_X11_stretch_78 : decode cX11_stretch 78 = .ok (.aaload, 1) := by decide +kernel
theorem d_X11_stretch_79 : decode cX11_stretch 79 = .ok (.iload 4, 2) := by decide +kernel
theorem d_X11_stretch_81 : decode cX11_stretch 81 = .ok (.iload_n 1, 1) := by decide +kernel
theorem d_X11_stretch_82 : decode cX11_stretch 82 = .ok (.iload_n 2, 1) := by decide +kernel
theorem d_X11_stretch_83 : decode cX11_stretch 83 = .ok (.iload_n 3, 1) := by decide +kernel
theorem d_X11_stretch_84 : decode cX11_stretch 84 = .ok (.invokevirtual 66, 3) := by decide +kernel
theorem d_X11_stretch_87 : decode cX11_stretch 87 = .ok (.aload_n 0, 1) := by decide +kernel
theorem d_X11_stretch_88 : decode cX11_stretch 88 = .ok (.iload 4, 2) := by decide +kernel
theorem d_X11_stretch_90 : decode cX11_stretch 90 = .ok (.invokevirtual 72, 3) := by decide +kernel
theorem d_X11_stretch_93 : decode cX11_stretch 93 = .ok (.ireturn, 1) := by decide +kernel
theorem d_X11_gauge_0 : decode cX11_gauge 0 = .ok (.iload_n 1, 1) := by decide +kernel
theorem d_X11_gauge_1 : decode cX11_gauge 1 = .ok (.invokestatic 75, 3) := by decide +kernel
theorem d_X11_gauge_4 : decode cX11_gauge 4 = .ok (.ifCond .eq 14, 3) := by decide +kernel
theorem d_X11_gauge_7 : decode cX11_gauge 7 = .ok (.iload_n 2, 1) := by decide +kernel
theorem d_X11_gauge_8 : decode cX11_gauge 8 = .ok (.bipush (-20), 2) := by decide +kernel
theorem d_X11_gauge_10 : decode cX11_gauge 10 = .ok (.bipush 40, 2) := by decide +kernel
theorem d_X11_gauge_12 : decode cX11_gauge 12 = .ok (.invokestatic 51, 3) := by decide +kernel
theorem d_X11_gauge_15 : decode cX11_gauge 15 = .ok (.ifCond .ne 9, 3) := by decide +kernel
theorem d_X11_gauge_18 : decode cX11_gauge 18 = .ok (.aload_n 0, 1) := by decide +kernel
theorem d_X11_gauge_19 : decode cX11_gauge 19 = .ok (.iconst 1, 1) := by decide +kernel
theorem d_X11_gauge_20 : decode cX11_gauge 20 = .ok (.invokevirtual 55, 3) := by decide +kernel
theorem d_X11_gauge_23 : decode cX11_gauge 23 = .ok (.ireturn, 1) := by decide +kernel
theorem d_X11_gauge_24 : decode cX11_gauge 24 = .ok (.aload_n 0, 1) := by decide +kernel
theorem d_X11_gauge_25 : decode cX11_gauge 25 = .ok (.getfield 10, 3) := by decide +kernel
theorem d_X11_gauge_28 : decode cX11_gauge 28 = .ok (.iload_n 1, 1) := by decide +kernel
theorem d_X11_gauge_29 : decode cX11_gauge 29 = .ok (.iload_n 2, 1) := by decide +kernel
theorem d_X11_gauge_30 : decode cX11_gauge 30 = .ok (.invokevirtual 79, 3) := by decide +kernel
theorem d_X11_gauge_33 : decode cX11_gauge 33 = .ok (.aload_n 0, 1) := by decide +kernel
theorem d_X11_gauge_34 : decode cX11_gauge 34 = .ok (.aload_n 0, 1) := by decide +kernel
theorem d_X11_gauge_35 : decode cX11_gauge 35 = .ok (.getfield 10, 3) := by decide +kernel
theorem d_X11_gauge_38 : decode cX11_gauge 38 = .ok (.getfield 83, 3) := by decide +kernel
theorem d_X11_gauge_41 : decode cX11_gauge 41 = .ok (.invokevirtual 72, 3) := by decide +kernel
theorem d_X11_gauge_44 : decode cX11_gauge 44 = .ok (.ireturn, 1) := by decide +kernel
theorem d_X11_shift_0 : decode cX11_shift 0 = .ok (.aload_n 0, 1) := by decide +kernel
theorem d_X11_shift_1 : decode cX11_shift 1 = .ok (.getfield 10, 3) := by decide +kernel
theorem d_X11_shift_4 : decode cX11_shift 4 = .ok (.iload_n 1, 1) := by decide +kernel
theorem d_X11_shift_5 : decode cX11_shift 5 = .ok (.invokevirtual 86, 3) := by decide +kernel
theorem d_X11_shift_8 : decode cX11_shift 8 = .ok (.ifCond .eq 21, 3) := by decide +kernel
theorem d_X11_shift_11 : decode cX11_shift 11 = .ok (.iload_n 2, 1) := by decide +kernel
theorem d_X11_shift_12 : decode cX11_shift 12 = .ok (.invokestatic 75, 3) := by decide +kernel
theorem d_X11_shift_15 : decode cX11_shift 15 = .ok (.ifCond .eq 14, 3) := by decide +kernel
theorem d_X11_shift_18 : decode cX11_shift 18 = .ok (.iload_n 3, 1) := by decide +kernel
theorem d_X11_shift_19 : decode cX11_shift 19 = .ok (.bipush (-20), 2) := by decide +kernel
theorem d_X11_shift_21 : decode cX11_shift 21 = .ok (.bipush 20, 2) := by decide +kernel
theorem d_X11_shift_23 : decode cX11_shift 23 = .ok (.invokestatic 51, 3) := by decide +kernel
theorem d_X11_shift_26 : decode cX11_shift 26 = .ok (.ifCond .ne 9, 3) := by decide +kernel
theorem d_X11_shift_29 : decode cX11_shift 29 = .ok (.aload_n 0, 1) := by decide +kernel
theorem d_X11_shift_30 : decode cX11_shift 30 = .ok (.iconst 1, 1) := by decide +kernel
theorem d_X11_shift_31 : decode cX11_shift 31 = .ok (.invokevirtual 55, 3) := by decide +kernel
theorem d_X11_shift_34 : decode cX11_shift 34 = .ok (.ireturn, 1) := by decide +kernel
theorem d_X11_shift_35 : decode cX11_shift 35 = .ok (.aload_n 0, 1) := by decide +kernel
theorem d_X11_shift_36 : decode cX11_shift 36 = .ok (.getfield 10, 3) := by decide +kernel
theorem d_X11_shift_39 : decode cX11_shift 39 = .ok (.getfield 62, 3) := by decide +kernel
theorem d_X11_shift_42 : decode cX11_shift 42 = .ok (.iload_n 1, 1) := by decide +kernel
theorem d_X11_shift_43 : decode cX11_shift 43 = .ok (.aaload, 1) := by decide +kernel
theorem d_X11_shift_44 : decode cX11_shift 44 = .ok (.astore 4, 2) := by decide +kernel
theorem d_X11_shift_46 : decode cX11_shift 46 = .ok (.aload 4, 2) := by decide +kernel
theorem d_X11_shift_48 : decode cX11_shift 48 = .ok (.getfield 89, 3) := by decide +kernel
theorem d_X11_shift_51 : decode cX11_shift 51 = .ok (.iconst 1, 1) := by decide +kernel
theorem d_X11_shift_52 : decode cX11_shift 52 = .ok (.invokestatic 92, 3) := by decide +kernel
theorem d_X11_shift_55 : decode cX11_shift 55 = .ok (.ifCond .ne 9, 3) := by decide +kernel
theorem d_X11_shift_58 : decode cX11_shift 58 = .ok (.aload_n 0, 1) := by decide +kernel
theorem d_X11_shift_59 : decode cX11_shift 59 = .ok (.iconst 3, 1) := by decide +kernel
theorem d_X11_shift_60 : decode cX11_shift 60 = .ok (.invokevirtual 55, 3) := by decide +kernel
theorem d_X11_shift_63 : decode cX11_shift 63 = .ok (.ireturn, 1) := by decide +kernel
theorem d_X11_shift_64 : decode cX11_shift 64 = .ok (.aload 4, 2) := by decide +kernel
theorem d_X11_shift_66 : decode cX11_shift 66 = .ok (.getfield 96, 3) := by decide +kernel
theorem d_X11_shift_69 : decode cX11_shift 69 = .ok (.iload_n 2, 1) := by decide +kernel
theorem d_X11_shift_70 : decode cX11_shift 70 = .ok (.iload_n 3, 1) := by decide +kernel
theorem d_X11_shift_71 : decode cX11_shift 71 = .ok (.iastore, 1) := by decide +kernel
theorem d_X11_shift_72 : decode cX11_shift 72 = .ok (.aload_n 0, 1) := by decide +kernel
theorem d_X11_shift_73 : decode cX11_shift 73 = .ok (.iconst 1, 1) := by decide +kernel
theorem d_X11_shift_74 : decode cX11_shift 74 = .ok (.invokevirtual 72, 3) := by decide +kernel
theorem d_X11_shift_77 : decode cX11_shift 77 = .ok (.ireturn, 1) := by decide +kernel
theorem d_X11_cold_0 : decode cX11_cold 0 = .ok (.iload_n 1, 1) := by decide +kernel
theorem d_X11_cold_1 : decode cX11_cold 1 = .ok (.invokestatic 75, 3) := by decide +kernel
theorem d_X11_cold_4 : decode cX11_cold 4 = .ok (.ifCond .ne 9, 3) := by decide +kernel
theorem d_X11_cold_7 : decode cX11_cold 7 = .ok (.aload_n 0, 1) := by decide +kernel
theorem d_X11_cold_8 : decode cX11_cold 8 = .ok (.iconst 1, 1) := by decide +kernel
theorem d_X11_cold_9 : decode cX11_cold 9 = .ok (.invokevirtual 55, 3) := by decide +kernel
theorem d_X11_cold_12 : decode cX11_cold 12 = .ok (.ireturn, 1) := by decide +kernel
theorem d_X11_cold_13 : decode cX11_cold 13 = .ok (.aload_n 0, 1) := by decide +kernel
theorem d_X11_cold_14 : decode cX11_cold 14 = .ok (.getfield 10, 3) := by decide +kernel
theorem d_X11_cold_17 : decode cX11_cold 17 = .ok (.getfield 99, 3) := by decide +kernel
theorem d_X11_cold_20 : decode cX11_cold 20 = .ok (.iload_n 1, 1) := by decide +kernel
theorem d_X11_cold_21 : decode cX11_cold 21 = .ok (.baload, 1) := by decide +kernel
theorem d_X11_cold_22 : decode cX11_cold 22 = .ok (.iload_n 2, 1) := by decide +kernel
theorem d_X11_cold_23 : decode cX11_cold 23 = .ok (.if_icmp .ne 7, 3) := by decide +kernel
theorem d_X11_cold_26 : decode cX11_cold 26 = .ok (.iconst 0, 1) := by decide +kernel
theorem d_X11_cold_27 : decode cX11_cold 27 = .ok (.goto 4, 3) := by decide +kernel
theorem d_X11_cold_30 : decode cX11_cold 30 = .ok (.iconst 1, 1) := by decide +kernel
theorem d_X11_cold_31 : decode cX11_cold 31 = .ok (.istore_n 3, 1) := by decide +kernel
theorem d_X11_cold_32 : decode cX11_cold 32 = .ok (.aload_n 0, 1) := by decide +kernel
theorem d_X11_cold_33 : decode cX11_cold 33 = .ok (.getfield 10, 3) := by decide +kernel
theorem d_X11_cold_36 : decode cX11_cold 36 = .ok (.getfield 99, 3) := by decide +kernel
theorem d_X11_cold_39 : decode cX11_cold 39 = .ok (.iload_n 1, 1) := by decide +kernel
theorem d_X11_cold_40 : decode cX11_cold 40 = .ok (.iload_n 2, 1) := by decide +kernel
theorem d_X11_cold_41 : decode cX11_cold 41 = .ok (.bastore, 1) := by decide +kernel
theorem d_X11_cold_42 : decode cX11_cold 42 = .ok (.aload_n 0, 1) := by decide +kernel
theorem d_X11_cold_43 : decode cX11_cold 43 = .ok (.iload_n 3, 1) := by decide +kernel
theorem d_X11_cold_44 : decode cX11_cold 44 = .ok (.invokevirtual 72, 3) := by decide +kernel
theorem d_X11_cold_47 : decode cX11_cold 47 = .ok (.ireturn, 1) := by decide +kernel
theorem d_X11_light_0 : decode cX11_light 0 = .ok (.aload_n 0, 1) := by decide +kernel
theorem d_X11_light_1 : decode cX11_light 1 = .ok (.getfield 10, 3) := by decide +kernel
theorem d_X11_light_4 : decode cX11_light 4 = .ok (.iload_n 1, 1) := by decide +kernel
theorem d_X11_light_5 : decode cX11_light 5 = .ok (.invokevirtual 86, 3) := by decide +kernel
theorem d_X11_light_8 : decode cX11_light 8 = .ok (.ifCond .ne 9, 3) := by decide +kernel
theorem d_X11_light_11 : decode cX11_light 11 = .ok (.aload_n 0, 1) := by decide +kernel
theorem d_X11_light_12 : decode cX11_light 12 = .ok (.iconst 1, 1) := by decide +kernel
theorem d_X11_light_13 : decode cX11_light 13 = .ok (.invokevirtual 55, 3) := by decide +kernel
theorem d_X11_light_16 : decode cX11_light 16 = .ok (.ireturn, 1) := by decide +kernel
theorem d_X11_light_17 : decode cX11_light 17 = .ok (.aload_n 0, 1) := by decide +kernel
theorem d_X11_light_18 : decode cX11_light 18 = .ok (.getfield 10, 3) := by decide +kernel
theorem d_X11_light_21 : decode cX11_light 21 = .ok (.getfield 62, 3) := by decide +kernel
theorem d_X11_light_24 : decode cX11_light 24 = .ok (.iload_n 1, 1) := by decide +kernel
theorem d_X11_light_25 : decode cX11_light 25 = .ok (.aaload, 1) := by decide +kernel
theorem d_X11_light_26 : decode cX11_light 26 = .ok (.astore_n 3, 1) := by decide +kernel
theorem d_X11_light_27 : decode cX11_light 27 = .ok (.aload_n 3, 1) := by decide +kernel
theorem d_X11_light_28 : decode cX11_light 28 = .ok (.getfield 89, 3) := by decide +kernel
theorem d_X11_light_31 : decode cX11_light 31 = .ok (.iconst 3, 1) := by decide +kernel
theorem d_X11_light_32 : decode cX11_light 32 = .ok (.if_icmp .eq 9, 3) := by decide +kernel
theorem d_X11_light_35 : decode cX11_light 35 = .ok (.aload_n 0, 1) := by decide +kernel
theorem d_X11_light_36 : decode cX11_light 36 = .ok (.iconst 3, 1) := by decide +kernel
theorem d_X11_light_37 : decode cX11_light 37 = .ok (.invokevirtual 55, 3) := by decide +kernel
theorem d_X11_light_40 : decode cX11_light 40 = .ok (.ireturn, 1) := by decide +kernel
theorem d_X11_light_41 : decode cX11_light 41 = .ok (.aload_n 3, 1) := by decide +kernel
theorem d_X11_light_42 : decode cX11_light 42 = .ok (.getfield 103, 3) := by decide +kernel
theorem d_X11_light_45 : decode cX11_light 45 = .ok (.iload_n 2, 1) := by decide +kernel
theorem d_X11_light_46 : decode cX11_light 46 = .ok (.if_icmp .ne 7, 3) := by decide +kernel
theorem d_X11_light_49 : decode cX11_light 49 = .ok (.iconst 0, 1) := by decide +kernel
theorem d_X11_light_50 : decode cX11_light 50 = .ok (.goto 4, 3) := by decide +kernel
theorem d_X11_light_53 : decode cX11_light 53 = .ok (.iconst 1, 1) := by decide +kernel
theorem d_X11_light_54 : decode cX11_light 54 = .ok (.istore 4, 2) := by decide +kernel
theorem d_X11_light_56 : decode cX11_light 56 = .ok (.aload_n 3, 1) := by decide +kernel
theorem d_X11_light_57 : decode cX11_light 57 = .ok (.iload_n 2, 1) := by decide +kernel
theorem d_X11_light_58 : decode cX11_light 58 = .ok (.putfield 103, 3) := by decide +kernel
theorem d_X11_light_61 : decode cX11_light 61 = .ok (.aload_n 0, 1) := by decide +kernel
theorem d_X11_light_62 : decode cX11_light 62 = .ok (.iload 4, 2) := by decide +kernel
theorem d_X11_light_64 : decode cX11_light 64 = .ok (.invokevirtual 72, 3) := by decide +kernel
theorem d_X11_light_67 : decode cX11_light 67 = .ok (.ireturn, 1) := by decide +kernel
theorem d_X11_boat_0 : decode cX11_boat 0 = .ok (.aload_n 0, 1) := by decide +kernel
theorem d_X11_boat_1 : decode cX11_boat 1 = .ok (.getfield 10, 3) := by decide +kernel
theorem d_X11_boat_4 : decode cX11_boat 4 = .ok (.iload_n 1, 1) := by decide +kernel
theorem d_X11_boat_5 : decode cX11_boat 5 = .ok (.invokevirtual 107, 3) := by decide +kernel
theorem d_X11_boat_8 : decode cX11_boat 8 = .ok (.ifCond .eq 35, 3) := by decide +kernel
theorem d_X11_boat_11 : decode cX11_boat 11 = .ok (.iload_n 2, 1) := by decide +kernel
theorem d_X11_boat_12 : decode cX11_boat 12 = .ok (.iconst 1, 1) := by decide +kernel
theorem d_X11_boat_13 : decode cX11_boat 13 = .ok (.bipush 30, 2) := by decide +kernel
theorem d_X11_boat_15 : decode cX11_boat 15 = .ok (.invokestatic 51, 3) := by decide +kernel
theorem d_X11_boat_18 : decode cX11_boat 18 = .ok (.ifCond .eq 25, 3) := by decide +kernel
theorem d_X11_boat_21 : decode cX11_boat 21 = .ok (.iload_n 3, 1) := by decide +kernel
theorem d_X11_boat_22 : decode cX11_boat 22 = .ok (.iconst 1, 1) := by decide +kernel
theorem d_X11_boat_23 : decode cX11_boat 23 = .ok (.sipush 999, 3) := by decide +kernel
theorem d_X11_boat_26 : decode cX11_boat 26 = .ok (.invokestatic 51, 3) := by decide +kernel
theorem d_X11_boat_29 : decode cX11_boat 29 = .ok (.ifCond .eq 14, 3) := by decide +kernel
theorem d_X11_boat_32 : decode cX11_boat 32 = .ok (.iload 4, 2) := by decide +kernel
theorem d_X11_boat_34 : decode cX11_boat 34 = .ok (.iconst 1, 1) := by decide +kernel
theorem d_X11_boat_35 : decode cX11_boat 35 = .ok (.bipush 99, 2) := by decide +kernel
theorem d_X11_boat_37 : decode cX11_boat 37 = .ok (.invokestatic 51, 3) := by decide +kernel
theorem d_X11_boat_40 : decode cX11_boat 40 = .ok (.ifCond .ne 9, 3) := by decide +kernel
theorem d_X11_boat_43 : decode cX11_boat 43 = .ok (.aload_n 0, 1) := by decide +kernel
theorem d_X11_boat_44 : decode cX11_boat 44 = .ok (.iconst 1, 1) := by decide +kernel
theorem d_X11_boat_45 : decode cX11_boat 45 = .ok (.invokevirtual 55, 3) := by decide +kernel
theorem d_X11_boat_48 : decode cX11_boat 48 = .ok (.ireturn, 1) := by decide +kernel
theorem d_X11_boat_49 : decode cX11_boat 49 = .ok (.aload_n 0, 1) := by decide +kernel
theorem d_X11_boat_50 : decode cX11_boat 50 = .ok (.getfield 10, 3) := by decide +kernel
theorem d_X11_boat_53 : decode cX11_boat 53 = .ok (.getfield 110, 3) := by decide +kernel
theorem d_X11_boat_56 : decode cX11_boat 56 = .ok (.iconst 5, 1) := by decide +kernel
theorem d_X11_boat_57 : decode cX11_boat 57 = .ok (.if_icmp .lt 9, 3) := by decide +kernel
theorem d_X11_boat_60 : decode cX11_boat 60 = .ok (.aload_n 0, 1) := by decide +kernel
theorem d_X11_boat_61 : decode cX11_boat 61 = .ok (.iconst 2, 1) := by decide +kernel
theorem d_X11_boat_62 : decode cX11_boat 62 = .ok (.invokevirtual 55, 3) := by decide +kernel
theorem d_X11_boat_65 : decode cX11_boat 65 = .ok (.ireturn, 1) := by decide +kernel
theorem d_X11_boat_66 : decode cX11_boat 66 = .ok (.aload_n 0, 1) := by decide +kernel
theorem d_X11_boat_67 : decode cX11_boat 67 = .ok (.getfield 10, 3) := by decide +kernel
theorem d_X11_boat_70 : decode cX11_boat 70 = .ok (.dup, 1) := by decide +kernel
theorem d_X11_boat_71 : decode cX11_boat 71 = .ok (.getfield 110, 3) := by decide +kernel
theorem d_X11_boat_74 : decode cX11_boat 74 = .ok (.dup_x1, 1) := by decide +kernel
theorem d_X11_boat_75 : decode cX11_boat 75 = .ok (.iconst 1, 1) := by decide +kernel
theorem d_X11_boat_76 : decode cX11_boat 76 = .ok (.iadd, 1) := by decide +kernel
theorem d_X11_boat_77 : decode cX11_boat 77 = .ok (.putfield 110, 3) := by decide +kernel
theorem d_X11_boat_80 : decode cX11_boat 80 = .ok (.istore 5, 2) := by decide +kernel
theorem d_X11_boat_82 : decode cX11_boat 82 = .ok (.aload_n 0, 1) := by decide +kernel
theorem d_X11_boat_83 : decode cX11_boat 83 = .ok (.getfield 10, 3) := by decide +kernel
theorem d_X11_boat_86 : decode cX11_boat 86 = .ok (.getfield 113, 3) := by decide +kernel
theorem d_X11_boat_89 : decode cX11_boat 89 = .ok (.iload 5, 2) := by decide +kernel
theorem d_X11_boat_91 : decode cX11_boat 91 = .ok (.aaload, 1) := by decide +kernel
theorem d_X11_boat_92 : decode cX11_boat 92 = .ok (.iload_n 1, 1) := by decide +kernel
theorem d_X11_boat_93 : decode cX11_boat 93 = .ok (.iload_n 2, 1) := by decide +kernel
theorem d_X11_boat_94 : decode cX11_boat 94 = .ok (.iload_n 3, 1) := by decide +kernel
theorem d_X11_boat_95 : decode cX11_boat 95 = .ok (.iload 4, 2) := by decide +kernel
theorem d_X11_boat_97 : decode cX11_boat 97 = .ok (.invokevirtual 117, 3) := by decide +kernel
theorem d_X11_boat_100 : decode cX11_boat 100 = .ok (.aload_n 0, 1) := by decide +kernel
theorem d_X11_boat_101 : decode cX11_boat 101 = .ok (.iload 5, 2) := by decide +kernel
theorem d_X11_boat_103 : decode cX11_boat 103 = .ok (.invokevirtual 72, 3) := by decide +kernel
theorem d_X11_boat_106 : decode cX11_boat 106 = .ok (.ireturn, 1) := by decide +kernel
theorem d_X11_bale_0 : decode cX11_bale 0 = .ok (.aload_n 0, 1) := by decide +kernel
theorem d_X11_bale_1 : decode cX11_bale 1 = .ok (.getfield 10, 3) := by decide +kernel
theorem d_X11_bale_4 : decode cX11_bale 4 = .ok (.iload_n 1, 1) := by decide +kernel
theorem d_X11_bale_5 : decode cX11_bale 5 = .ok (.iload_n 2, 1) := by decide +kernel
theorem d_X11_bale_6 : decode cX11_bale 6 = .ok (.invokevirtual 120, 3) := by decide +kernel
theorem d_X11_bale_9 : decode cX11_bale 9 = .ok (.ifCond .eq 26, 3) := by decide +kernel
theorem d_X11_bale_12 : decode cX11_bale 12 = .ok (.iload_n 3, 1) := by decide +kernel
theorem d_X11_bale_13 : decode cX11_bale 13 = .ok (.iconst 1, 1) := by decide +kernel
theorem d_X11_bale_14 : decode cX11_bale 14 = .ok (.sipush 200, 3) := by decide +kernel
theorem d_X11_bale_17 : decode cX11_bale 17 = .ok (.invokestatic 51, 3) := by decide +kernel
theorem d_X11_bale_20 : decode cX11_bale 20 = .ok (.ifCond .eq 15, 3) := by decide +kernel
theorem d_X11_bale_23 : decode cX11_bale 23 = .ok (.iload 4, 2) := by decide +kernel
theorem d_X11_bale_25 : decode cX11_bale 25 = .ok (.iconst 0, 1) := by decide +kernel
theorem d_X11_bale_26 : decode cX11_bale 26 = .ok (.sipush 999, 3) := by decide +kernel
theorem d_X11_bale_29 : decode cX11_bale 29 = .ok (.invokestatic 51, 3) := by decide +kernel
theorem d_X11_bale_32 : decode cX11_bale 32 = .ok (.ifCond .ne 9, 3) := by decide +kernel
theorem d_X11_bale_35 : decode cX11_bale 35 = .ok (.aload_n 0, 1) := by decide +kernel
theorem d_X11_bale_36 : decode cX11_bale 36 = .ok (.iconst 1, 1) := by decide +kernel
theorem d_X11_bale_37 : decode cX11_bale 37 = .ok (.invokevirtual 55, 3) := by decide +kernel
theorem d_X11_bale_40 : decode cX11_bale 40 = .ok (.ireturn, 1) := by decide +kernel
theorem d_X11_bale_41 : decode cX11_bale 41 = .ok (.aload_n 0, 1) := by decide +kernel
theorem d_X11_bale_42 : decode cX11_bale 42 = .ok (.getfield 10, 3) := by decide +kernel
theorem d_X11_bale_45 : decode cX11_bale 45 = .ok (.getfield 123, 3) := by decide +kernel
theorem d_X11_bale_48 : decode cX11_bale 48 = .ok (.bipush 12, 2) := by decide +kernel
theorem d_X11_bale_50 : decode cX11_bale 50 = .ok (.if_icmp .lt 9, 3) := by decide +kernel
theorem d_X11_bale_53 : decode cX11_bale 53 = .ok (.aload_n 0, 1) := by decide +kernel
theorem d_X11_bale_54 : decode cX11_bale 54 = .ok (.iconst 2, 1) := by decide +kernel
theorem d_X11_bale_55 : decode cX11_bale 55 = .ok (.invokevirtual 55, 3) := by decide +kernel
theorem d_X11_bale_58 : decode cX11_bale 58 = .ok (.ireturn, 1) := by decide +kernel
theorem d_X11_bale_59 : decode cX11_bale 59 = .ok (.aload_n 0, 1) := by decide +kernel
theorem d_X11_bale_60 : decode cX11_bale 60 = .ok (.getfield 10, 3) := by decide +kernel
theorem d_X11_bale_63 : decode cX11_bale 63 = .ok (.dup, 1) := by decide +kernel
theorem d_X11_bale_64 : decode cX11_bale 64 = .ok (.getfield 123, 3) := by decide +kernel
theorem d_X11_bale_67 : decode cX11_bale 67 = .ok (.dup_x1, 1) := by decide +kernel
theorem d_X11_bale_68 : decode cX11_bale 68 = .ok (.iconst 1, 1) := by decide +kernel
theorem d_X11_bale_69 : decode cX11_bale 69 = .ok (.iadd, 1) := by decide +kernel
theorem d_X11_bale_70 : decode cX11_bale 70 = .ok (.putfield 123, 3) := by decide +kernel
theorem d_X11_bale_73 : decode cX11_bale 73 = .ok (.istore 5, 2) := by decide +kernel
theorem d_X11_bale_75 : decode cX11_bale 75 = .ok (.aload_n 0, 1) := by decide +kernel
theorem d_X11_bale_76 : decode cX11_bale 76 = .ok (.getfield 10, 3) := by decide +kernel
theorem d_X11_bale_79 : decode cX11_bale 79 = .ok (.getfield 126, 3) := by decide +kernel
theorem d_X11_bale_82 : decode cX11_bale 82 = .ok (.iload 5, 2) := by decide +kernel
theorem d_X11_bale_84 : decode cX11_bale 84 = .ok (.aaload, 1) := by decide +kernel
theorem d_X11_bale_85 : decode cX11_bale 85 = .ok (.iload_n 1, 1) := by decide +kernel
theorem d_X11_bale_86 : decode cX11_bale 86 = .ok (.iload_n 2, 1) := by decide +kernel
theorem d_X11_bale_87 : decode cX11_bale 87 = .ok (.iload_n 3, 1) := by decide +kernel
theorem d_X11_bale_88 : decode cX11_bale 88 = .ok (.iload 4, 2) := by decide +kernel
theorem d_X11_bale_90 : decode cX11_bale 90 = .ok (.invokevirtual 130, 3) := by decide +kernel
theorem d_X11_bale_93 : decode cX11_bale 93 = .ok (.aload_n 0, 1) := by decide +kernel
theorem d_X11_bale_94 : decode cX11_bale 94 = .ok (.iload 5, 2) := by decide +kernel
theorem d_X11_bale_96 : decode cX11_bale 96 = .ok (.invokevirtual 72, 3) := by decide +kernel
theorem d_X11_bale_99 : decode cX11_bale 99 = .ok (.ireturn, 1) := by decide +kernel
theorem d_X11_lade_0 : decode cX11_lade 0 = .ok (.aload_n 0, 1) := by decide +kernel
theorem d_X11_lade_1 : decode cX11_lade 1 = .ok (.getfield 10, 3) := by decide +kernel
theorem d_X11_lade_4 : decode cX11_lade 4 = .ok (.iload_n 1, 1) := by decide +kernel
theorem d_X11_lade_5 : decode cX11_lade 5 = .ok (.invokevirtual 133, 3) := by decide +kernel
theorem d_X11_lade_8 : decode cX11_lade 8 = .ok (.ifCond .eq 14, 3) := by decide +kernel
theorem d_X11_lade_11 : decode cX11_lade 11 = .ok (.aload_n 0, 1) := by decide +kernel
theorem d_X11_lade_12 : decode cX11_lade 12 = .ok (.getfield 10, 3) := by decide +kernel
theorem d_X11_lade_15 : decode cX11_lade 15 = .ok (.iload_n 2, 1) := by decide +kernel
theorem d_X11_lade_16 : decode cX11_lade 16 = .ok (.invokevirtual 136, 3) := by decide +kernel
theorem d_X11_lade_19 : decode cX11_lade 19 = .ok (.ifCond .ne 9, 3) := by decide +kernel
theorem d_X11_lade_22 : decode cX11_lade 22 = .ok (.aload_n 0, 1) := by decide +kernel
theorem d_X11_lade_23 : decode cX11_lade 23 = .ok (.iconst 1, 1) := by decide +kernel
theorem d_X11_lade_24 : decode cX11_lade 24 = .ok (.invokevirtual 55, 3) := by decide +kernel
theorem d_X11_lade_27 : decode cX11_lade 27 = .ok (.ireturn, 1) := by decide +kernel
theorem d_X11_lade_28 : decode cX11_lade 28 = .ok (.aload_n 0, 1) := by decide +kernel
theorem d_X11_lade_29 : decode cX11_lade 29 = .ok (.getfield 10, 3) := by decide +kernel
theorem d_X11_lade_32 : decode cX11_lade 32 = .ok (.getfield 126, 3) := by decide +kernel
theorem d_X11_lade_35 : decode cX11_lade 35 = .ok (.iload_n 1, 1) := by decide +kernel
theorem d_X11_lade_36 : decode cX11_lade 36 = .ok (.aaload, 1) := by decide +kernel
theorem d_X11_lade_37 : decode cX11_lade 37 = .ok (.astore_n 3, 1) := by decide +kernel
theorem d_X11_lade_38 : decode cX11_lade 38 = .ok (.aload_n 0, 1) := by decide +kernel
theorem d_X11_lade_39 : decode cX11_lade 39 = .ok (.getfield 10, 3) := by decide +kernel
theorem d_X11_lade_42 : decode cX11_lade 42 = .ok (.getfield 113, 3) := by decide +kernel
theorem d_X11_lade_45 : decode cX11_lade 45 = .ok (.iload_n 2, 1) := by decide +kernel
theorem d_X11_lade_46 : decode cX11_lade 46 = .ok (.aaload, 1) := by decide +kernel
theorem d_X11_lade_47 : decode cX11_lade 47 = .ok (.astore 4, 2) := by decide +kernel
theorem d_X11_lade_49 : decode cX11_lade 49 = .ok (.aload_n 3, 1) := by decide +kernel
theorem d_X11_lade_50 : decode cX11_lade 50 = .ok (.getfield 139, 3) := by decide +kernel
theorem d_X11_lade_53 : decode cX11_lade 53 = .ok (.ifCond .ne 27, 3) := by decide +kernel
theorem d_X11_lade_56 : decode cX11_lade 56 = .ok (.aload 4, 2) := by decide +kernel
theorem d_X11_lade_58 : decode cX11_lade 58 = .ok (.getfield 142, 3) := by decide +kernel
theorem d_X11_lade_61 : decode cX11_lade 61 = .ok (.ifCond .ne 19, 3) := by decide +kernel
theorem d_X11_lade_64 : decode cX11_lade 64 = .ok (.aload_n 3, 1) := by decide +kernel
theorem d_X11_lade_65 : decode cX11_lade 65 = .ok (.getfield 143, 3) := by decide +kernel
theorem d_X11_lade_68 : decode cX11_lade 68 = .ok (.aload 4, 2) := by decide +kernel
theorem d_X11_lade_70 : decode cX11_lade 70 = .ok (.getfield 146, 3) := by decide +kernel
theorem d_X11_lade_73 : decode cX11_lade 73 = .ok (.if_icmp .ne 7, 3) := by decide +kernel
theorem d_X11_lade_76 : decode cX11_lade 76 = .ok (.iconst 1, 1) := by decide +kernel
theorem d_X11_lade_77 : decode cX11_lade 77 = .ok (.goto 4, 3) := by decide +kernel
theorem d_X11_lade_80 : decode cX11_lade 80 = .ok (.iconst 0, 1) := by decide +kernel
theorem d_X11_lade_81 : decode cX11_lade 81 = .ok (.istore 5, 2) := by decide +kernel
theorem d_X11_lade_83 : decode cX11_lade 83 = .ok (.iload 5, 2) := by decide +kernel
theorem d_X11_lade_85 : decode cX11_lade 85 = .ok (.ifCond .eq 21, 3) := by decide +kernel
theorem d_X11_lade_88 : decode cX11_lade 88 = .ok (.aload 4, 2) := by decide +kernel
theorem d_X11_lade_90 : decode cX11_lade 90 = .ok (.getfield 147, 3) := by decide +kernel
theorem d_X11_lade_93 : decode cX11_lade 93 = .ok (.aload_n 3, 1) := by decide +kernel
theorem d_X11_lade_94 : decode cX11_lade 94 = .ok (.getfield 150, 3) := by decide +kernel
theorem d_X11_lade_97 : decode cX11_lade 97 = .ok (.iadd, 1) := by decide +kernel
theorem d_X11_lade_98 : decode cX11_lade 98 = .ok (.aload 4, 2) := by decide +kernel
theorem d_X11_lade_100 : decode cX11_lade 100 = .ok (.getfield 153, 3) := by decide +kernel
theorem d_X11_lade_103 : decode cX11_lade 103 = .ok (.if_icmp .le 9, 3) := by decide +kernel
theorem d_X11_lade_106 : decode cX11_lade 106 = .ok (.aload_n 0, 1) := by decide +kernel
theorem d_X11_lade_107 : decode cX11_lade 107 = .ok (.iconst 3, 1) := by decide +kernel
theorem d_X11_lade_108 : decode cX11_lade 108 = .ok (.invokevirtual 55, 3) := by decide +kernel
theorem d_X11_lade_111 : decode cX11_lade 111 = .ok (.ireturn, 1) := by decide +kernel
theorem d_X11_lade_112 : decode cX11_lade 112 = .ok (.aload_n 3, 1) := by decide +kernel
theorem d_X11_lade_113 : decode cX11_lade 113 = .ok (.iconst 1, 1) := by decide +kernel
theorem d_X11_lade_114 : decode cX11_lade 114 = .ok (.putfield 139, 3) := by decide +kernel
theorem d_X11_lade_117 : decode cX11_lade 117 = .ok (.aload_n 3, 1) := by decide +kernel
theorem d_X11_lade_118 : decode cX11_lade 118 = .ok (.iload_n 2, 1) := by decide +kernel
theorem d_X11_lade_119 : decode cX11_lade 119 = .ok (.putfield 143, 3) := by decide +kernel
theorem d_X11_lade_122 : decode cX11_lade 122 = .ok (.aload 4, 2) := by decide +kernel
theorem d_X11_lade_124 : decode cX11_lade 124 = .ok (.dup, 1) := by decide +kernel
theorem d_X11_lade_125 : decode cX11_lade 125 = .ok (.getfield 147, 3) := by decide +kernel
theorem d_X11_lade_128 : decode cX11_lade 128 = .ok (.aload_n 3, 1) := by decide +kernel
theorem d_X11_lade_129 : decode cX11_lade 129 = .ok (.getfield 150, 3) := by decide +kernel
theorem d_X11_lade_132 : decode cX11_lade 132 = .ok (.iadd, 1) := by decide +kernel
theorem d_X11_lade_133 : decode cX11_lade 133 = .ok (.putfield 147, 3) := by decide +kernel
theorem d_X11_lade_136 : decode cX11_lade 136 = .ok (.aload_n 0, 1) := by decide +kernel
theorem d_X11_lade_137 : decode cX11_lade 137 = .ok (.aload 4, 2) := by decide +kernel
theorem d_X11_lade_139 : decode cX11_lade 139 = .ok (.invokevirtual 156, 3) := by decide +kernel
theorem d_X11_lade_142 : decode cX11_lade 142 = .ok (.invokevirtual 72, 3) := by decide +kernel
theorem d_X11_lade_145 : decode cX11_lade 145 = .ok (.ireturn, 1) := by decide +kernel
theorem d_X11_land_0 : decode cX11_land 0 = .ok (.aload_n 0, 1) := by decide +kernel
theorem d_X11_land_1 : decode cX11_land 1 = .ok (.getfield 10, 3) := by decide +kernel
theorem d_X11_land_4 : decode cX11_land 4 = .ok (.iload_n 1, 1) := by decide +kernel
theorem d_X11_land_5 : decode cX11_land 5 = .ok (.invokevirtual 133, 3) := by decide +kernel
theorem d_X11_land_8 : decode cX11_land 8 = .ok (.ifCond .ne 9, 3) := by decide +kernel
theorem d_X11_land_11 : decode cX11_land 11 = .ok (.aload_n 0, 1) := by decide +kernel
theorem d_X11_land_12 : decode cX11_land 12 = .ok (.iconst 1, 1) := by decide +kernel
theorem d_X11_land_13 : decode cX11_land 13 = .ok (.invokevirtual 55, 3) := by decide +kernel
theorem d_X11_land_16 : decode cX11_land 16 = .ok (.ireturn, 1) := by decide +kernel
theorem d_X11_land_17 : decode cX11_land 17 = .ok (.aload_n 0, 1) := by decide +kernel
theorem d_X11_land_18 : decode cX11_land 18 = .ok (.getfield 10, 3) := by decide +kernel
theorem d_X11_land_21 : decode cX11_land 21 = .ok (.getfield 126, 3) := by decide +kernel
theorem d_X11_land_24 : decode cX11_land 24 = .ok (.iload_n 1, 1) := by decide +kernel
theorem d_X11_land_25 : decode cX11_land 25 = .ok (.aaload, 1) := by decide +kernel
theorem d_X11_land_26 : decode cX11_land 26 = .ok (.astore_n 2, 1) := by decide +kernel
theorem d_X11_land_27 : decode cX11_land 27 = .ok (.aload_n 0, 1) := by decide +kernel
theorem d_X11_land_28 : decode cX11_land 28 = .ok (.getfield 10, 3) := by decide +kernel
theorem d_X11_land_31 : decode cX11_land 31 = .ok (.aload_n 2, 1) := by decide +kernel
theorem d_X11_land_32 : decode cX11_land 32 = .ok (.invokevirtual 160, 3) := by decide +kernel
theorem d_X11_land_35 : decode cX11_land 35 = .ok (.astore_n 3, 1) := by decide +kernel
theorem d_X11_land_36 : decode cX11_land 36 = .ok (.aload_n 3, 1) := by decide +kernel
theorem d_X11_land_37 : decode cX11_land 37 = .ok (.ifnull 10, 3) := by decide +kernel
theorem d_X11_land_40 : decode cX11_land 40 = .ok (.aload_n 3, 1) := by decide +kernel
theorem d_X11_land_41 : decode cX11_land 41 = .ok (.getfield 142, 3) := by decide +kernel
theorem d_X11_land_44 : decode cX11_land 44 = .ok (.ifCond .eq 9, 3) := by decide +kernel
theorem d_X11_land_47 : decode cX11_land 47 = .ok (.aload_n 0, 1) := by decide +kernel
theorem d_X11_land_48 : decode cX11_land 48 = .ok (.iconst 3, 1) := by decide +kernel
theorem d_X11_land_49 : decode cX11_land 49 = .ok (.invokevirtual 55, 3) := by decide +kernel
theorem d_X11_land_52 : decode cX11_land 52 = .ok (.ireturn, 1) := by decide +kernel
theorem d_X11_land_53 : decode cX11_land 53 = .ok (.aload_n 3, 1) := by decide +kernel
theorem d_X11_land_54 : decode cX11_land 54 = .ok (.dup, 1) := by decide +kernel
theorem d_X11_land_55 : decode cX11_land 55 = .ok (.getfield 147, 3) := by decide +kernel
theorem d_X11_land_58 : decode cX11_land 58 = .ok (.aload_n 2, 1) := by decide +kernel
theorem d_X11_land_59 : decode cX11_land 59 = .ok (.getfield 150, 3) := by decide +kernel
theorem d_X11_land_62 : decode cX11_land 62 = .ok (.isub, 1) := by decide +kernel
theorem d_X11_land_63 : decode cX11_land 63 = .ok (.putfield 147, 3) := by decide +kernel
theorem d_X11_land_66 : decode cX11_land 66 = .ok (.aload_n 2, 1) := by decide +kernel
theorem d_X11_land_67 : decode cX11_land 67 = .ok (.aload_n 3, 1) := by decide +kernel
theorem d_X11_land_68 : decode cX11_land 68 = .ok (.getfield 146, 3) := by decide +kernel
theorem d_X11_land_71 : decode cX11_land 71 = .ok (.putfield 143, 3) := by decide +kernel
theorem d_X11_land_74 : decode cX11_land 74 = .ok (.aload_n 2, 1) := by decide +kernel
theorem d_X11_land_75 : decode cX11_land 75 = .ok (.iconst 0, 1) := by decide +kernel
theorem d_X11_land_76 : decode cX11_land 76 = .ok (.putfield 139, 3) := by decide +kernel
theorem d_X11_land_79 : decode cX11_land 79 = .ok (.aload_n 2, 1) := by decide +kernel
theorem d_X11_land_80 : decode cX11_land 80 = .ok (.getfield 143, 3) := by decide +kernel
theorem d_X11_land_83 : decode cX11_land 83 = .ok (.aload_n 2, 1) := by decide +kernel
theorem d_X11_land_84 : decode cX11_land 84 = .ok (.getfield 164, 3) := by decide +kernel
theorem d_X11_land_87 : decode cX11_land 87 = .ok (.if_icmp .ne 24, 3) := by decide +kernel
theorem d_X11_land_90 : decode cX11_land 90 = .ok (.aload_n 2, 1) := by decide +kernel
theorem d_X11_land_91 : decode cX11_land 91 = .ok (.iconst 2, 1) := by decide +kernel
theorem d_X11_land_92 : decode cX11_land 92 = .ok (.putfield 139, 3) := by decide +kernel
theorem d_X11_land_95 : decode cX11_land 95 = .ok (.aload_n 0, 1) := by decide +kernel
theorem d_X11_land_96 : decode cX11_land 96 = .ok (.getfield 10, 3) := by decide +kernel
theorem d_X11_land_99 : decode cX11_land 99 = .ok (.dup, 1) := by decide +kernel
theorem d_X11_land_100 : decode cX11_land 100 = .ok (.getfield 167, 3) := by decide +kernel
theorem d_X11_land_103 : decode cX11_land 103 = .ok (.aload_n 2, 1) := by decide +kernel
theorem d_X11_land_104 : decode cX11_land 104 = .ok (.getfield 170, 3) := by decide +kernel
theorem d_X11_land_107 : decode cX11_land 107 = .ok (.iadd, 1) := by decide +kernel
theorem d_X11_land_108 : decode cX11_land 108 = .ok (.putfield 167, 3) := by decide +kernel
theorem d_X11_land_111 : decode cX11_land 111 = .ok (.aload_n 0, 1) := by decide +kernel
theorem d_X11_land_112 : decode cX11_land 112 = .ok (.aload_n 2, 1) := by decide +kernel
theorem d_X11_land_113 : decode cX11_land 113 = .ok (.getfield 143, 3) := by decide +kernel
theorem d_X11_land_116 : decode cX11_land 116 = .ok (.invokevirtual 72, 3) := by decide +kernel
theorem d_X11_land_119 : decode cX11_land 119 = .ok (.ireturn, 1) := by decide +kernel
theorem d_X11_lose_0 : decode cX11_lose 0 = .ok (.aload_n 0, 1) := by decide +kernel
theorem d_X11_lose_1 : decode cX11_lose 1 = .ok (.getfield 10, 3) := by decide +kernel
theorem d_X11_lose_4 : decode cX11_lose 4 = .ok (.iload_n 1, 1) := by decide +kernel
theorem d_X11_lose_5 : decode cX11_lose 5 = .ok (.invokevirtual 133, 3) := by decide +kernel
theorem d_X11_lose_8 : decode cX11_lose 8 = .ok (.ifCond .ne 9, 3) := by decide +kernel
theorem d_X11_lose_11 : decode cX11_lose 11 = .ok (.aload_n 0, 1) := by decide +kernel
theorem d_X11_lose_12 : decode cX11_lose 12 = .ok (.iconst 1, 1) := by decide +kernel
theorem d_X11_lose_13 : decode cX11_lose 13 = .ok (.invokevirtual 55, 3) := by decide +kernel
theorem d_X11_lose_16 : decode cX11_lose 16 = .ok (.ireturn, 1) := by decide +kernel
theorem d_X11_lose_17 : decode cX11_lose 17 = .ok (.aload_n 0, 1) := by decide +kernel
theorem d_X11_lose_18 : decode cX11_lose 18 = .ok (.getfield 10, 3) := by decide +kernel
theorem d_X11_lose_21 : decode cX11_lose 21 = .ok (.getfield 126, 3) := by decide +kernel
theorem d_X11_lose_24 : decode cX11_lose 24 = .ok (.iload_n 1, 1) := by decide +kernel
theorem d_X11_lose_25 : decode cX11_lose 25 = .ok (.aaload, 1) := by decide +kernel
theorem d_X11_lose_26 : decode cX11_lose 26 = .ok (.astore_n 2, 1) := by decide +kernel
theorem d_X11_lose_27 : decode cX11_lose 27 = .ok (.aload_n 0, 1) := by decide +kernel
theorem d_X11_lose_28 : decode cX11_lose 28 = .ok (.getfield 10, 3) := by decide +kernel
theorem d_X11_lose_31 : decode cX11_lose 31 = .ok (.aload_n 2, 1) := by decide +kernel
theorem d_X11_lose_32 : decode cX11_lose 32 = .ok (.invokevirtual 160, 3) := by decide +kernel
theorem d_X11_lose_35 : decode cX11_lose 35 = .ok (.astore_n 3, 1) := by decide +kernel
theorem d_X11_lose_36 : decode cX11_lose 36 = .ok (.aload_n 3, 1) := by decide +kernel
theorem d_X11_lose_37 : decode cX11_lose 37 = .ok (.ifnonnull 9, 3) := by decide +kernel
theorem d_X11_lose_40 : decode cX11_lose 40 = .ok (.aload_n 0, 1) := by decide +kernel
theorem d_X11_lose_41 : decode cX11_lose 41 = .ok (.iconst 3, 1) := by decide +kernel
theorem d_X11_lose_42 : decode cX11_lose 42 = .ok (.invokevirtual 55, 3) := by decide +kernel
theorem d_X11_lose_45 : decode cX11_lose 45 = .ok (.ireturn, 1) := by decide +kernel
theorem d_X11_lose_46 : decode cX11_lose 46 = .ok (.aload_n 3, 1) := by decide +kernel
theorem d_X11_lose_47 : decode cX11_lose 47 = .ok (.dup, 1) := by decide +kernel
theorem d_X11_lose_48 : decode cX11_lose 48 = .ok (.getfield 147, 3) := by decide +kernel
theorem d_X11_lose_51 : decode cX11_lose 51 = .ok (.aload_n 2, 1) := by decide +kernel
theorem d_X11_lose_52 : decode cX11_lose 52 = .ok (.getfield 150, 3) := by decide +kernel
theorem d_X11_lose_55 : decode cX11_lose 55 = .ok (.isub, 1) := by decide +kernel
theorem d_X11_lose_56 : decode cX11_lose 56 = .ok (.putfield 147, 3) := by decide +kernel
theorem d_X11_lose_59 : decode cX11_lose 59 = .ok (.aload_n 2, 1) := by decide +kernel
theorem d_X11_lose_60 : decode cX11_lose 60 = .ok (.iconst 3, 1) := by decide +kernel
theorem d_X11_lose_61 : decode cX11_lose 61 = .ok (.putfield 139, 3) := by decide +kernel
theorem d_X11_lose_64 : decode cX11_lose 64 = .ok (.aload_n 2, 1) := by decide +kernel
theorem d_X11_lose_65 : decode cX11_lose 65 = .ok (.iconst (-1), 1) := by decide +kernel
theorem d_X11_lose_66 : decode cX11_lose 66 = .ok (.putfield 143, 3) := by decide +kernel
theorem d_X11_lose_69 : decode cX11_lose 69 = .ok (.aload_n 0, 1) := by decide +kernel
theorem d_X11_lose_70 : decode cX11_lose 70 = .ok (.iconst 1, 1) := by decide +kernel
theorem d_X11_lose_71 : decode cX11_lose 71 = .ok (.invokevirtual 72, 3) := by decide +kernel
theorem d_X11_lose_74 : decode cX11_lose 74 = .ok (.ireturn, 1) := by decide +kernel
theorem d_X11_leave_0 : decode cX11_leave 0 = .ok (.aload_n 0, 1) := by decide +kernel
theorem d_X11_leave_1 : decode cX11_leave 1 = .ok (.getfield 10, 3) := by decide +kernel
theorem d_X11_leave_4 : decode cX11_leave 4 = .ok (.iload_n 1, 1) := by decide +kernel
theorem d_X11_leave_5 : decode cX11_leave 5 = .ok (.invokevirtual 136, 3) := by decide +kernel
theorem d_X11_leave_8 : decode cX11_leave 8 = .ok (.ifCond .ne 9, 3) := by decide +kernel
theorem d_X11_leave_11 : decode cX11_leave 11 = .ok (.aload_n 0, 1) := by decide +kernel
theorem d_X11_leave_12 : decode cX11_leave 12 = .ok (.iconst 1, 1) := by decide +kernel
theorem d_X11_leave_13 : decode cX11_leave 13 = .ok (.invokevirtual 55, 3) := by decide +kernel
theorem d_X11_leave_16 : decode cX11_leave 16 = .ok (.ireturn, 1) := by decide +kernel
theorem d_X11_leave_17 : decode cX11_leave 17 = .ok (.aload_n 0, 1) := by decide +kernel
theorem d_X11_leave_18 : decode cX11_leave 18 = .ok (.getfield 10, 3) := by decide +kernel
theorem d_X11_leave_21 : decode cX11_leave 21 = .ok (.getfield 113, 3) := by decide +kernel
theorem d_X11_leave_24 : decode cX11_leave 24 = .ok (.iload_n 1, 1) := by decide +kernel
theorem d_X11_leave_25 : decode cX11_leave 25 = .ok (.aaload, 1) := by decide +kernel
theorem d_X11_leave_26 : decode cX11_leave 26 = .ok (.astore_n 3, 1) := by decide +kernel
theorem d_X11_leave_27 : decode cX11_leave 27 = .ok (.aload_n 0, 1) := by decide +kernel
theorem d_X11_leave_28 : decode cX11_leave 28 = .ok (.getfield 10, 3) := by decide +kernel
theorem d_X11_leave_31 : decode cX11_leave 31 = .ok (.aload_n 3, 1) := by decide +kernel
theorem d_X11_leave_32 : decode cX11_leave 32 = .ok (.iload_n 2, 1) := by decide +kernel
theorem d_X11_leave_33 : decode cX11_leave 33 = .ok (.invokevirtual 173, 3) := by decide +kernel
theorem d_X11_leave_36 : decode cX11_leave 36 = .ok (.istore 4, 2) := by decide +kernel
theorem d_X11_leave_38 : decode cX11_leave 38 = .ok (.iload 4, 2) := by decide +kernel
theorem d_X11_leave_40 : decode cX11_leave 40 = .ok (.ifCond .eq 13, 3) := by decide +kernel
theorem d_X11_leave_43 : decode cX11_leave 43 = .ok (.aload_n 0, 1) := by decide +kernel
theorem d_X11_leave_44 : decode cX11_leave 44 = .ok (.bipush 20, 2) := by decide +kernel
theorem d_X11_leave_46 : decode cX11_leave 46 = .ok (.iload 4, 2) := by decide +kernel
theorem d_X11_leave_48 : decode cX11_leave 48 = .ok (.iadd, 1) := by decide +kernel
theorem d_X11_leave_49 : decode cX11_leave 49 = .ok (.invokevirtual 55, 3) := by decide +kernel
theorem d_X11_leave_52 : decode cX11_leave 52 = .ok (.ireturn, 1) := by decide +kernel
theorem d_X11_leave_53 : decode cX11_leave 53 = .ok (.aload_n 0, 1) := by decide +kernel
theorem d_X11_leave_54 : decode cX11_leave 54 = .ok (.aload_n 0, 1) := by decide +kernel
theorem d_X11_leave_55 : decode cX11_leave 55 = .ok (.getfield 10, 3) := by decide +kernel
theorem d_X11_leave_58 : decode cX11_leave 58 = .ok (.aload_n 3, 1) := by decide +kernel
theorem d_X11_leave_59 : decode cX11_leave 59 = .ok (.iload_n 2, 1) := by decide +kernel
theorem d_X11_leave_60 : decode cX11_leave 60 = .ok (.invokevirtual 177, 3) := by decide +kernel
theorem d_X11_leave_63 : decode cX11_leave 63 = .ok (.invokevirtual 72, 3) := by decide +kernel
theorem d_X11_leave_66 : decode cX11_leave 66 = .ok (.ireturn, 1) := by decide +kernel
theorem d_X11_off_0 : decode cX11_off 0 = .ok (.aload_n 0, 1) := by decide +kernel
theorem d_X11_off_1 : decode cX11_off 1 = .ok (.getfield 10, 3) := by decide +kernel
theorem d_X11_off_4 : decode cX11_off 4 = .ok (.iload_n 1, 1) := by decide +kernel
theorem d_X11_off_5 : decode cX11_off 5 = .ok (.invokevirtual 136, 3) := by decide +kernel
theorem d_X11_off_8 : decode cX11_off 8 = .ok (.ifCond .ne 9, 3) := by decide +kernel
theorem d_X11_off_11 : decode cX11_off 11 = .ok (.aload_n 0, 1) := by decide +kernel
theorem d_X11_off_12 : decode cX11_off 12 = .ok (.iconst 1, 1) := by decide +kernel
theorem d_X11_off_13 : decode cX11_off 13 = .ok (.invokevirtual 55, 3) := by decide +kernel
theorem d_X11_off_16 : decode cX11_off 16 = .ok (.ireturn, 1) := by decide +kernel
theorem d_X11_off_17 : decode cX11_off 17 = .ok (.aload_n 0, 1) := by decide +kernel
theorem d_X11_off_18 : decode cX11_off 18 = .ok (.getfield 10, 3) := by decide +kernel
theorem d_X11_off_21 : decode cX11_off 21 = .ok (.getfield 113, 3) := by decide +kernel
theorem d_X11_off_24 : decode cX11_off 24 = .ok (.iload_n 1, 1) := by decide +kernel
theorem d_X11_off_25 : decode cX11_off 25 = .ok (.aaload, 1) := by decide +kernel
theorem d_X11_off_26 : decode cX11_off 26 = .ok (.astore_n 2, 1) := by decide +kernel
theorem d_X11_off_27 : decode cX11_off 27 = .ok (.aload_n 2, 1) := by decide +kernel
theorem d_X11_off_28 : decode cX11_off 28 = .ok (.getfield 142, 3) := by decide +kernel
theorem d_X11_off_31 : decode cX11_off 31 = .ok (.iconst 3, 1) := by decide +kernel
theorem d_X11_off_32 : decode cX11_off 32 = .ok (.if_icmp .ne 28, 3) := by decide +kernel
theorem d_X11_off_35 : decode cX11_off 35 = .ok (.aload_n 2, 1) := by decide +kernel
theorem d_X11_off_36 : decode cX11_off 36 = .ok (.invokevirtual 156, 3) := by decide +kernel
theorem d_X11_off_39 : decode cX11_off 39 = .ok (.aload_n 0, 1) := by decide +kernel
theorem d_X11_off_40 : decode cX11_off 40 = .ok (.getfield 10, 3) := by decide +kernel
theorem d_X11_off_43 : decode cX11_off 43 = .ok (.aload_n 2, 1) := by decide +kernel
theorem d_X11_off_44 : decode cX11_off 44 = .ok (.getfield 146, 3) := by decide +kernel
theorem d_X11_off_47 : decode cX11_off 47 = .ok (.aload_n 0, 1) := by decide +kernel
theorem d_X11_off_48 : decode cX11_off 48 = .ok (.getfield 10, 3) := by decide +kernel
theorem d_X11_off_51 : decode cX11_off 51 = .ok (.invokevirtual 180, 3) := by decide +kernel
theorem d_X11_off_54 : decode cX11_off 54 = .ok (.invokevirtual 183, 3) := by decide +kernel
theorem d_X11_off_57 : decode cX11_off 57 = .ok (.if_icmp .le 9, 3) := by decide +kernel
theorem d_X11_off_60 : decode cX11_off 60 = .ok (.aload_n 0, 1) := by decide +kernel
theorem d_X11_off_61 : decode cX11_off 61 = .ok (.iconst 3, 1) := by decide +kernel
theorem d_X11_off_62 : decode cX11_off 62 = .ok (.invokevirtual 55, 3) := by decide +kernel
theorem d_X11_off_65 : decode cX11_off 65 = .ok (.ireturn, 1) := by decide +kernel
theorem d_X11_off_66 : decode cX11_off 66 = .ok (.aload_n 0, 1) := by decide +kernel
theorem d_X11_off_67 : decode cX11_off 67 = .ok (.getfield 10, 3) := by decide +kernel
theorem d_X11_off_70 : decode cX11_off 70 = .ok (.aload_n 2, 1) := by decide +kernel
theorem d_X11_off_71 : decode cX11_off 71 = .ok (.aload_n 2, 1) := by decide +kernel
theorem d_X11_off_72 : decode cX11_off 72 = .ok (.getfield 187, 3) := by decide +kernel
theorem d_X11_off_75 : decode cX11_off 75 = .ok (.invokevirtual 190, 3) := by decide +kernel
theorem d_X11_off_78 : decode cX11_off 78 = .ok (.aload_n 0, 1) := by decide +kernel
theorem d_X11_off_79 : decode cX11_off 79 = .ok (.aload_n 2, 1) := by decide +kernel
theorem d_X11_off_80 : decode cX11_off 80 = .ok (.getfield 146, 3) := by decide +kernel
theorem d_X11_off_83 : decode cX11_off 83 = .ok (.invokevirtual 72, 3) := by decide +kernel
theorem d_X11_off_86 : decode cX11_off 86 = .ok (.ireturn, 1) := by decide +kernel
theorem d_X11_go_0 : decode cX11_go 0 = .ok (.iload_n 1, 1) := by decide +kernel
theorem d_X11_go_1 : decode cX11_go 1 = .ok (.iconst 1, 1) := by decide +kernel
theorem d_X11_go_2 : decode cX11_go 2 = .ok (.sipush 200, 3) := by decide +kernel
theorem d_X11_go_5 : decode cX11_go 5 = .ok (.invokestatic 51, 3) := by decide +kernel
theorem d_X11_go_8 : decode cX11_go 8 = .ok (.ifCond .ne 9, 3) := by decide +kernel
theorem d_X11_go_11 : decode cX11_go 11 = .ok (.aload_n 0, 1) := by decide +kernel
theorem d_X11_go_12 : decode cX11_go 12 = .ok (.iconst 1, 1) := by decide +kernel
theorem d_X11_go_13 : decode cX11_go 13 = .ok (.invokevirtual 55, 3) := by decide +kernel
theorem d_X11_go_16 : decode cX11_go 16 = .ok (.ireturn, 1) := by decide +kernel
theorem d_X11_go_17 : decode cX11_go 17 = .ok (.aload_n 0, 1) := by decide +kernel
theorem d_X11_go_18 : decode cX11_go 18 = .ok (.getfield 10, 3) := by decide +kernel
theorem d_X11_go_21 : decode cX11_go 21 = .ok (.getfield 194, 3) := by decide +kernel
theorem d_X11_go_24 : decode cX11_go 24 = .ok (.iload_n 1, 1) := by decide +kernel
theorem d_X11_go_25 : decode cX11_go 25 = .ok (.iadd, 1) := by decide +kernel
theorem d_X11_go_26 : decode cX11_go 26 = .ok (.sipush 9599, 3) := by decide +kernel
theorem d_X11_go_29 : decode cX11_go 29 = .ok (.if_icmp .le 9, 3) := by decide +kernel
theorem d_X11_go_32 : decode cX11_go 32 = .ok (.aload_n 0, 1) := by decide +kernel
theorem d_X11_go_33 : decode cX11_go 33 = .ok (.iconst 2, 1) := by decide +kernel
theorem d_X11_go_34 : decode cX11_go 34 = .ok (.invokevirtual 55, 3) := by decide +kernel
theorem d_X11_go_37 : decode cX11_go 37 = .ok (.ireturn, 1) := by decide +kernel
theorem d_X11_go_38 : decode cX11_go 38 = .ok (.iconst 0, 1) := by decide +kernel
theorem d_X11_go_39 : decode cX11_go 39 = .ok (.istore_n 2, 1) := by decide +kernel
theorem d_X11_go_40 : decode cX11_go 40 = .ok (.iload_n 2, 1) := by decide +kernel
theorem d_X11_go_41 : decode cX11_go 41 = .ok (.iload_n 1, 1) := by decide +kernel
theorem d_X11_go_42 : decode cX11_go 42 = .ok (.if_icmp .ge 16, 3) := by decide +kernel
theorem d_X11_go_45 : decode cX11_go 45 = .ok (.aload_n 0, 1) := by decide +kernel
theorem d_X11_go_46 : decode cX11_go 46 = .ok (.getfield 10, 3) := by decide +kernel
theorem d_X11_go_49 : decode cX11_go 49 = .ok (.invokevirtual 197, 3) := by decide +kernel
theorem d_X11_go_52 : decode cX11_go 52 = .ok (.iinc 2 1, 3) := by decide +kernel
theorem d_X11_go_55 : decode cX11_go 55 = .ok (.goto (-15), 3) := by decide +kernel
theorem d_X11_go_58 : decode cX11_go 58 = .ok (.aload_n 0, 1) := by decide +kernel
theorem d_X11_go_59 : decode cX11_go 59 = .ok (.aload_n 0, 1) := by decide +kernel
theorem d_X11_go_60 : decode cX11_go 60 = .ok (.getfield 10, 3) := by decide +kernel
theorem d_X11_go_63 : decode cX11_go 63 = .ok (.getfield 194, 3) := by decide +kernel
theorem d_X11_go_66 : decode cX11_go 66 = .ok (.invokevirtual 72, 3) := by decide +kernel
theorem d_X11_go_69 : decode cX11_go 69 = .ok (.ireturn, 1) := by decide +kernel
theorem d_X11_yard_0 : decode cX11_yard 0 = .ok (.aload_n 0, 1) := by decide +kernel
theorem d_X11_yard_1 : decode cX11_yard 1 = .ok (.getfield 10, 3) := by decide +kernel
theorem d_X11_yard_4 : decode cX11_yard 4 = .ok (.iload_n 1, 1) := by decide +kernel
theorem d_X11_yard_5 : decode cX11_yard 5 = .ok (.invokevirtual 107, 3) := by decide +kernel
theorem d_X11_yard_8 : decode cX11_yard 8 = .ok (.ifCond .eq 13, 3) := by decide +kernel
theorem d_X11_yard_11 : decode cX11_yard 11 = .ok (.iload_n 2, 1) := by decide +kernel
theorem d_X11_yard_12 : decode cX11_yard 12 = .ok (.iconst 0, 1) := by decide +kernel
theorem d_X11_yard_13 : decode cX11_yard 13 = .ok (.bipush 99, 2) := by decide +kernel
theorem d_X11_yard_15 : decode cX11_yard 15 = .ok (.invokestatic 51, 3) := by decide +kernel
theorem d_X11_yard_18 : decode cX11_yard 18 = .ok (.ifCond .ne 9, 3) := by decide +kernel
theorem d_X11_yard_21 : decode cX11_yard 21 = .ok (.aload_n 0, 1) := by decide +kernel
theorem d_X11_yard_22 : decode cX11_yard 22 = .ok (.iconst 1, 1) := by decide +kernel
theorem d_X11_yard_23 : decode cX11_yard 23 = .ok (.invokevirtual 55, 3) := by decide +kernel
theorem d_X11_yard_26 : decode cX11_yard 26 = .ok (.ireturn, 1) := by decide +kernel
theorem d_X11_yard_27 : decode cX11_yard 27 = .ok (.aload_n 0, 1) := by decide +kernel
theorem d_X11_yard_28 : decode cX11_yard 28 = .ok (.getfield 10, 3) := by decide +kernel
theorem d_X11_yard_31 : decode cX11_yard 31 = .ok (.getfield 200, 3) := by decide +kernel
theorem d_X11_yard_34 : decode cX11_yard 34 = .ok (.iload_n 1, 1) := by decide +kernel
theorem d_X11_yard_35 : decode cX11_yard 35 = .ok (.aaload, 1) := by decide +kernel
theorem d_X11_yard_36 : decode cX11_yard 36 = .ok (.astore_n 3, 1) := by decide +kernel
theorem d_X11_yard_37 : decode cX11_yard 37 = .ok (.aload_n 3, 1) := by decide +kernel
theorem d_X11_yard_38 : decode cX11_yard 38 = .ok (.getfield 204, 3) := by decide +kernel
theorem d_X11_yard_41 : decode cX11_yard 41 = .ok (.istore 4, 2) := by decide +kernel
theorem d_X11_yard_43 : decode cX11_yard 43 = .ok (.aload_n 3, 1) := by decide +kernel
theorem d_X11_yard_44 : decode cX11_yard 44 = .ok (.iload_n 2, 1) := by decide +kernel
theorem d_X11_yard_45 : decode cX11_yard 45 = .ok (.putfield 204, 3) := by decide +kernel
theorem d_X11_yard_48 : decode cX11_yard 48 = .ok (.aload_n 0, 1) := by decide +kernel
theorem d_X11_yard_49 : decode cX11_yard 49 = .ok (.iload 4, 2) := by decide +kernel
theorem d_X11_yard_51 : decode cX11_yard 51 = .ok (.invokevirtual 72, 3) := by decide +kernel
theorem d_X11_yard_54 : decode cX11_yard 54 = .ok (.ireturn, 1) := by decide +kernel
theorem d_X11_wood_0 : decode cX11_wood 0 = .ok (.aload_n 0, 1) := by decide +kernel
theorem d_X11_wood_1 : decode cX11_wood 1 = .ok (.getfield 10, 3) := by decide +kernel
theorem d_X11_wood_4 : decode cX11_wood 4 = .ok (.iload_n 1, 1) := by decide +kernel
theorem d_X11_wood_5 : decode cX11_wood 5 = .ok (.invokevirtual 136, 3) := by decide +kernel
theorem d_X11_wood_8 : decode cX11_wood 8 = .ok (.ifCond .eq 13, 3) := by decide +kernel
theorem d_X11_wood_11 : decode cX11_wood 11 = .ok (.iload_n 2, 1) := by decide +kernel
theorem d_X11_wood_12 : decode cX11_wood 12 = .ok (.iconst 1, 1) := by decide +kernel
theorem d_X11_wood_13 : decode cX11_wood 13 = .ok (.bipush 99, 2) := by decide +kernel
theorem d_X11_wood_15 : decode cX11_wood 15 = .ok (.invokestatic 51, 3) := by decide +kernel
theorem d_X11_wood_18 : decode cX11_wood 18 = .ok (.ifCond .ne 9, 3) := by decide +kernel
theorem d_X11_wood_21 : decode cX11_wood 21 = .ok (.aload_n 0, 1) := by decide +kernel
theorem d_X11_wood_22 : decode cX11_wood 22 = .ok (.iconst 1, 1) := by decide +kernel
theorem d_X11_wood_23 : decode cX11_wood 23 = .ok (.invokevirtual 55, 3) := by decide +kernel
theorem d_X11_wood_26 : decode cX11_wood 26 = .ok (.ireturn, 1) := by decide +kernel
theorem d_X11_wood_27 : decode cX11_wood 27 = .ok (.aload_n 0, 1) := by decide +kernel
theorem d_X11_wood_28 : decode cX11_wood 28 = .ok (.getfield 10, 3) := by decide +kernel
theorem d_X11_wood_31 : decode cX11_wood 31 = .ok (.getfield 113, 3) := by decide +kernel
theorem d_X11_wood_34 : decode cX11_wood 34 = .ok (.iload_n 1, 1) := by decide +kernel
theorem d_X11_wood_35 : decode cX11_wood 35 = .ok (.aaload, 1) := by decide +kernel
theorem d_X11_wood_36 : decode cX11_wood 36 = .ok (.astore_n 3, 1) := by decide +kernel
theorem d_X11_wood_37 : decode cX11_wood 37 = .ok (.aload_n 3, 1) := by decide +kernel
theorem d_X11_wood_38 : decode cX11_wood 38 = .ok (.getfield 142, 3) := by decide +kernel
theorem d_X11_wood_41 : decode cX11_wood 41 = .ok (.ifCond .ne 25, 3) := by decide +kernel
theorem d_X11_wood_44 : decode cX11_wood 44 = .ok (.aload_n 0, 1) := by decide +kernel
theorem d_X11_wood_45 : decode cX11_wood 45 = .ok (.getfield 10, 3) := by decide +kernel
theorem d_X11_wood_48 : decode cX11_wood 48 = .ok (.getfield 200, 3) := by decide +kernel
theorem d_X11_wood_51 : decode cX11_wood 51 = .ok (.aload_n 3, 1) := by decide +kernel
theorem d_X11_wood_52 : decode cX11_wood 52 = .ok (.getfield 146, 3) := by decide +kernel
theorem d_X11_wood_55 : decode cX11_wood 55 = .ok (.aaload, 1) := by decide +kernel
theorem d_X11_wood_56 : decode cX11_wood 56 = .ok (.getfield 204, 3) := by decide +kernel
theorem d_X11_wood_59 : decode cX11_wood 59 = .ok (.ifCond .le 7, 3) := by decide +kernel
theorem d_X11_wood_62 : decode cX11_wood 62 = .ok (.iconst 1, 1) := by decide +kernel
theorem d_X11_wood_63 : decode cX11_wood 63 = .ok (.goto 4, 3) := by decide +kernel
theorem d_X11_wood_66 : decode cX11_wood 66 = .ok (.iconst 0, 1) := by decide +kernel
theorem d_X11_wood_67 : decode cX11_wood 67 = .ok (.istore 4, 2) := by decide +kernel
theorem d_X11_wood_69 : decode cX11_wood 69 = .ok (.iload 4, 2) := by decide +kernel
theorem d_X11_wood_71 : decode cX11_wood 71 = .ok (.ifCond .eq 16, 3) := by decide +kernel
theorem d_X11_wood_74 : decode cX11_wood 74 = .ok (.aload_n 3, 1) := by decide +kernel
theorem d_X11_wood_75 : decode cX11_wood 75 = .ok (.getfield 209, 3) := by decide +kernel
theorem d_X11_wood_78 : decode cX11_wood 78 = .ok (.iload_n 2, 1) := by decide +kernel
theorem d_X11_wood_79 : decode cX11_wood 79 = .ok (.iadd, 1) := by decide +kernel
theorem d_X11_wood_80 : decode cX11_wood 80 = .ok (.aload_n 3, 1) := by decide +kernel
theorem d_X11_wood_81 : decode cX11_wood 81 = .ok (.getfield 212, 3) := by decide +kernel
theorem d_X11_wood_84 : decode cX11_wood 84 = .ok (.if_icmp .le 9, 3) := by decide +kernel
theorem d_X11_wood_87 : decode cX11_wood 87 = .ok (.aload_n 0, 1) := by decide +kernel
theorem d_X11_wood_88 : decode cX11_wood 88 = .ok (.iconst 3, 1) := by decide +kernel
theorem d_X11_wood_89 : decode cX11_wood 89 = .ok (.invokevirtual 55, 3) := by decide +kernel
theorem d_X11_wood_92 : decode cX11_wood 92 = .ok (.ireturn, 1) := by decide +kernel
theorem d_X11_wood_93 : decode cX11_wood 93 = .ok (.aload_n 3, 1) := by decide +kernel
theorem d_X11_wood_94 : decode cX11_wood 94 = .ok (.dup, 1) := by decide +kernel
theorem d_X11_wood_95 : decode cX11_wood 95 = .ok (.getfield 209, 3) := by decide +kernel
theorem d_X11_wood_98 : decode cX11_wood 98 = .ok (.iload_n 2, 1) := by decide +kernel
theorem d_X11_wood_99 : decode cX11_wood 99 = .ok (.iadd, 1) := by decide +kernel
theorem d_X11_wood_100 : decode cX11_wood 100 = .ok (.putfield 209, 3) := by decide +kernel
theorem d_X11_wood_103 : decode cX11_wood 103 = .ok (.aload_n 0, 1) := by decide +kernel
theorem d_X11_wood_104 : decode cX11_wood 104 = .ok (.aload_n 3, 1) := by decide +kernel
theorem d_X11_wood_105 : decode cX11_wood 105 = .ok (.getfield 209, 3) := by decide +kernel
theorem d_X11_wood_108 : decode cX11_wood 108 = .ok (.invokevirtual 72, 3) := by decide +kernel
theorem d_X11_wood_111 : decode cX11_wood 111 = .ok (.ireturn, 1) := by decide +kernel
theorem d_X11_trip_0 : decode cX11_trip 0 = .ok (.aload_n 0, 1) := by decide +kernel
theorem d_X11_trip_1 : decode cX11_trip 1 = .ok (.getfield 10, 3) := by decide +kernel
theorem d_X11_trip_4 : decode cX11_trip 4 = .ok (.iload_n 1, 1) := by decide +kernel
theorem d_X11_trip_5 : decode cX11_trip 5 = .ok (.iload_n 2, 1) := by decide +kernel
theorem d_X11_trip_6 : decode cX11_trip 6 = .ok (.invokevirtual 120, 3) := by decide +kernel
theorem d_X11_trip_9 : decode cX11_trip 9 = .ok (.ifCond .eq 13, 3) := by decide +kernel
theorem d_X11_trip_12 : decode cX11_trip 12 = .ok (.iload_n 3, 1) := by decide +kernel
theorem d_X11_trip_13 : decode cX11_trip 13 = .ok (.iconst 0, 1) := by decide +kernel
theorem d_X11_trip_14 : decode cX11_trip 14 = .ok (.bipush 9, 2) := by decide +kernel
theorem d_X11_trip_16 : decode cX11_trip 16 = .ok (.invokestatic 51, 3) := by decide +kernel
theorem d_X11_trip_19 : decode cX11_trip 19 = .ok (.ifCond .ne 9, 3) := by decide +kernel
theorem d_X11_trip_22 : decode cX11_trip 22 = .ok (.aload_n 0, 1) := by decide +kernel
theorem d_X11_trip_23 : decode cX11_trip 23 = .ok (.iconst 1, 1) := by decide +kernel
theorem d_X11_trip_24 : decode cX11_trip 24 = .ok (.invokevirtual 55, 3) := by decide +kernel
theorem d_X11_trip_27 : decode cX11_trip 27 = .ok (.ireturn, 1) := by decide +kernel
theorem d_X11_trip_28 : decode cX11_trip 28 = .ok (.aload_n 0, 1) := by decide +kernel
theorem d_X11_trip_29 : decode cX11_trip 29 = .ok (.getfield 10, 3) := by decide +kernel
theorem d_X11_trip_32 : decode cX11_trip 32 = .ok (.getfield 215, 3) := by decide +kernel
theorem d_X11_trip_35 : decode cX11_trip 35 = .ok (.bipush 6, 2) := by decide +kernel
theorem d_X11_trip_37 : decode cX11_trip 37 = .ok (.if_icmp .lt 9, 3) := by decide +kernel
theorem d_X11_trip_40 : decode cX11_trip 40 = .ok (.aload_n 0, 1) := by decide +kernel
theorem d_X11_trip_41 : decode cX11_trip 41 = .ok (.iconst 2, 1) := by decide +kernel
theorem d_X11_trip_42 : decode cX11_trip 42 = .ok (.invokevirtual 55, 3) := by decide +kernel
theorem d_X11_trip_45 : decode cX11_trip 45 = .ok (.ireturn, 1) := by decide +kernel
theorem d_X11_trip_46 : decode cX11_trip 46 = .ok (.aload_n 0, 1) := by decide +kernel
theorem d_X11_trip_47 : decode cX11_trip 47 = .ok (.getfield 10, 3) := by decide +kernel
theorem d_X11_trip_50 : decode cX11_trip 50 = .ok (.dup, 1) := by decide +kernel
theorem d_X11_trip_51 : decode cX11_trip 51 = .ok (.getfield 215, 3) := by decide +kernel
theorem d_X11_trip_54 : decode cX11_trip 54 = .ok (.dup_x1, 1) := by decide +kernel
theorem d_X11_trip_55 : decode cX11_trip 55 = .ok (.iconst 1, 1) := by decide +kernel
theorem d_X11_trip_56 : decode cX11_trip 56 = .ok (.iadd, 1) := by decide +kernel
theorem d_X11_trip_57 : decode cX11_trip 57 = .ok (.putfield 215, 3) := by decide +kernel
theorem d_X11_trip_60 : decode cX11_trip 60 = .ok (.istore 4, 2) := by decide +kernel
theorem d_X11_trip_62 : decode cX11_trip 62 = .ok (.aload_n 0, 1) := by decide +kernel
theorem d_X11_trip_63 : decode cX11_trip 63 = .ok (.getfield 10, 3) := by decide +kernel
theorem d_X11_trip_66 : decode cX11_trip 66 = .ok (.getfield 218, 3) := by decide +kernel
theorem d_X11_trip_69 : decode cX11_trip 69 = .ok (.iload 4, 2) := by decide +kernel
theorem d_X11_trip_71 : decode cX11_trip 71 = .ok (.aaload, 1) := by decide +kernel
theorem d_X11_trip_72 : decode cX11_trip 72 = .ok (.iload_n 1, 1) := by decide +kernel
theorem d_X11_trip_73 : decode cX11_trip 73 = .ok (.iload_n 2, 1) := by decide +kernel
theorem d_X11_trip_74 : decode cX11_trip 74 = .ok (.iload_n 3, 1) := by decide +kernel
theorem d_X11_trip_75 : decode cX11_trip 75 = .ok (.invokevirtual 222, 3) := by decide +kernel
theorem d_X11_trip_78 : decode cX11_trip 78 = .ok (.aload_n 0, 1) := by decide +kernel
theorem d_X11_trip_79 : decode cX11_trip 79 = .ok (.iload 4, 2) := by decide +kernel
theorem d_X11_trip_81 : decode cX11_trip 81 = .ok (.invokevirtual 72, 3) := by decide +kernel
theorem d_X11_trip_84 : decode cX11_trip 84 = .ok (.ireturn, 1) := by decide +kernel
theorem d_X11_rule_0 : decode cX11_rule 0 = .ok (.iload_n 1, 1) := by decide +kernel
theorem d_X11_rule_1 : decode cX11_rule 1 = .ok (.iconst 0, 1) := by decide +kernel
theorem d_X11_rule_2 : decode cX11_rule 2 = .ok (.iconst 5, 1) := by decide +kernel
theorem d_X11_rule_3 : decode cX11_rule 3 = .ok (.invokestatic 51, 3) := by decide +kernel
theorem d_X11_rule_6 : decode cX11_rule 6 = .ok (.ifCond .eq 16, 3) := by decide +kernel
theorem d_X11_rule_9 : decode cX11_rule 9 = .ok (.iload_n 2, 1) := by decide +kernel
theorem d_X11_rule_10 : decode cX11_rule 10 = .ok (.iconst 0, 1) := by decide +kernel
theorem d_X11_rule_11 : decode cX11_rule 11 = .ok (.iconst 2, 1) := by decide +kernel
theorem d_X11_rule_12 : decode cX11_rule 12 = .ok (.invokestatic 51, 3) := by decide +kernel
theorem d_X11_rule_15 : decode cX11_rule 15 = .ok (.ifCond .eq 7, 3) := by decide +kernel
theorem d_X11_rule_18 : decode cX11_rule 18 = .ok (.iconst 1, 1) := by decide +kernel
theorem d_X11_rule_19 : decode cX11_rule 19 = .ok (.goto 4, 3) := by decide +kernel
theorem d_X11_rule_22 : decode cX11_rule 22 = .ok (.iconst 0, 1) := by decide +kernel
theorem d_X11_rule_23 : decode cX11_rule 23 = .ok (.istore 4, 2) := by decide +kernel
theorem d_X11_rule_25 : decode cX11_rule 25 = .ok (.iload 4, 2) := by decide +kernel
theorem d_X11_rule_27 : decode cX11_rule 27 = .ok (.ifCond .eq 25, 3) := by decide +kernel
theorem d_X11_rule_30 : decode cX11_rule 30 = .ok (.iload_n 3, 1) := by decide +kernel
theorem d_X11_rule_31 : decode cX11_rule 31 = .ok (.iconst 0, 1) := by decide +kernel
theorem d_X11_rule_32 : decode cX11_rule 32 = .ok (.sipush 9999, 3) := by decide +kernel
theorem d_X11_rule_35 : decode cX11_rule 35 = .ok (.invokestatic 51, 3) := by decide +kernel
theorem d_X11_rule_38 : decode cX11_rule 38 = .ok (.ifCond .eq 14, 3) := by decide +kernel
theorem d_X11_rule_41 : decode cX11_rule 41 = .ok (.iload_n 3, 1) := by decide +kernel
theorem d_X11_rule_42 : decode cX11_rule 42 = .ok (.bipush 100, 2) := by decide +kernel
theorem d_X11_rule_44 : decode cX11_rule 44 = .ok (.irem, 1) := by decide +kernel
theorem d_X11_rule_45 : decode cX11_rule 45 = .ok (.iload_n 3, 1) := by decide +kernel
theorem d_X11_rule_46 : decode cX11_rule 46 = .ok (.bipush 100, 2) := by decide +kernel
theorem d_X11_rule_48 : decode cX11_rule 48 = .ok (.idiv, 1) := by decide +kernel
theorem d_X11_rule_49 : decode cX11_rule 49 = .ok (.if_icmp .ge 9, 3) := by decide +kernel
theorem d_X11_rule_52 : decode cX11_rule 52 = .ok (.aload_n 0, 1) := by decide +kernel
theorem d_X11_rule_53 : decode cX11_rule 53 = .ok (.iconst 1, 1) := by decide +kernel
theorem d_X11_rule_54 : decode cX11_rule 54 = .ok (.invokevirtual 55, 3) := by decide +kernel
theorem d_X11_rule_57 : decode cX11_rule 57 = .ok (.ireturn, 1) := by decide +kernel
theorem d_X11_rule_58 : decode cX11_rule 58 = .ok (.aload_n 0, 1) := by decide +kernel
theorem d_X11_rule_59 : decode cX11_rule 59 = .ok (.getfield 10, 3) := by decide +kernel
theorem d_X11_rule_62 : decode cX11_rule 62 = .ok (.getfield 227, 3) := by decide +kernel
theorem d_X11_rule_65 : decode cX11_rule 65 = .ok (.bipush 8, 2) := by decide +kernel
theorem d_X11_rule_67 : decode cX11_rule 67 = .ok (.if_icmp .lt 9, 3) := by decide +kernel
theorem d_X11_rule_70 : decode cX11_rule 70 = .ok (.aload_n 0, 1) := by decide +kernel
theorem d_X11_rule_71 : decode cX11_rule 71 = .ok (.iconst 2, 1) := by decide +kernel
theorem d_X11_rule_72 : decode cX11_rule 72 = .ok (.invokevirtual 55, 3) := by decide +kernel
theorem d_X11_rule_75 : decode cX11_rule 75 = .ok (.ireturn, 1) := by decide +kernel
theorem d_X11_rule_76 : decode cX11_rule 76 = .ok (.aload_n 0, 1) := by decide +kernel
theorem d_X11_rule_77 : decode cX11_rule 77 = .ok (.getfield 10, 3) := by decide +kernel
theorem d_X11_rule_80 : decode cX11_rule 80 = .ok (.dup, 1) := by decide +kernel
theorem d_X11_rule_81 : decode cX11_rule 81 = .ok (.getfield 227, 3) := by decide +kernel
theorem d_X11_rule_84 : decode cX11_rule 84 = .ok (.dup_x1, 1) := by decide +kernel
theorem d_X11_rule_85 : decode cX11_rule 85 = .ok (.iconst 1, 1) := by decide +kernel
theorem d_X11_rule_86 : decode cX11_rule 86 = .ok (.iadd, 1) := by decide +kernel
theorem d_X11_rule_87 : decode cX11_rule 87 = .ok (.putfield 227, 3) := by decide +kernel
theorem d_X11_rule_90 : decode cX11_rule 90 = .ok (.istore 5, 2) := by decide +kernel
theorem d_X11_rule_92 : decode cX11_rule 92 = .ok (.aload_n 0, 1) := by decide +kernel
theorem d_X11_rule_93 : decode cX11_rule 93 = .ok (.getfield 10, 3) := by decide +kernel
theorem d_X11_rule_96 : decode cX11_rule 96 = .ok (.getfield 230, 3) := by decide +kernel
theorem d_X11_rule_99 : decode cX11_rule 99 = .ok (.iload 5, 2) := by decide +kernel
theorem d_X11_rule_101 : decode cX11_rule 101 = .ok (.aaload, 1) := by decide +kernel
theorem d_X11_rule_102 : decode cX11_rule 102 = .ok (.iload_n 1, 1) := by decide +kernel
theorem d_X11_rule_103 : decode cX11_rule 103 = .ok (.iload_n 2, 1) := by decide +kernel
theorem d_X11_rule_104 : decode cX11_rule 104 = .ok (.iload_n 3, 1) := by decide +kernel
theorem d_X11_rule_105 : decode cX11_rule 105 = .ok (.bipush 100, 2) := by decide +kernel
theorem d_X11_rule_107 : decode cX11_rule 107 = .ok (.idiv, 1) := by decide +kernel
theorem d_X11_rule_108 : decode cX11_rule 108 = .ok (.iload_n 3, 1) := by decide +kernel
theorem d_X11_rule_109 : decode cX11_rule 109 = .ok (.bipush 100, 2) := by decide +kernel
theorem d_X11_rule_111 : decode cX11_rule 111 = .ok (.irem, 1) := by decide +kernel
theorem d_X11_rule_112 : decode cX11_rule 112 = .ok (.invokevirtual 234, 3) := by decide +kernel
theorem d_X11_rule_115 : decode cX11_rule 115 = .ok (.aload_n 0, 1) := by decide +kernel
theorem d_X11_rule_116 : decode cX11_rule 116 = .ok (.iload 5, 2) := by decide +kernel
theorem d_X11_rule_118 : decode cX11_rule 118 = .ok (.invokevirtual 72, 3) := by decide +kernel
theorem d_X11_rule_121 : decode cX11_rule 121 = .ok (.ireturn, 1) := by decide +kernel
theorem d_X11_image_0 : decode cX11_image 0 = .ok (.aload_n 0, 1) := by decide +kernel
theorem d_X11_image_1 : decode cX11_image 1 = .ok (.getfield 16, 3) := by decide +kernel
theorem d_X11_image_4 : decode cX11_image 4 = .ok (.ifnonnull 14, 3) := by decide +kernel
theorem d_X11_image_7 : decode cX11_image 7 = .ok (.aload_n 0, 1) := by decide +kernel
theorem d_X11_image_8 : decode cX11_image 8 = .ok (.new 7, 3) := by decide +kernel
theorem d_X11_image_11 : decode cX11_image 11 = .ok (.dup, 1) := by decide +kernel
theorem d_X11_image_12 : decode cX11_image 12 = .ok (.invokespecial 9, 3) := by decide +kernel
theorem d_X11_image_15 : decode cX11_image 15 = .ok (.putfield 16, 3) := by decide +kernel
theorem d_X11_image_18 : decode cX11_image 18 = .ok (.aload_n 0, 1) := by decide +kernel
theorem d_X11_image_19 : decode cX11_image 19 = .ok (.getfield 16, 3) := by decide +kernel
theorem d_X11_image_22 : decode cX11_image 22 = .ok (.aload_n 0, 1) := by decide +kernel
theorem d_X11_image_23 : decode cX11_image 23 = .ok (.getfield 10, 3) := by decide +kernel
theorem d_X11_image_26 : decode cX11_image 26 = .ok (.invokevirtual 237, 3) := by decide +kernel
theorem d_X11_image_29 : decode cX11_image 29 = .ok (.aload_n 0, 1) := by decide +kernel
theorem d_X11_image_30 : decode cX11_image 30 = .ok (.iconst 1, 1) := by decide +kernel
theorem d_X11_image_31 : decode cX11_image 31 = .ok (.invokevirtual 72, 3) := by decide +kernel
theorem d_X11_image_34 : decode cX11_image 34 = .ok (.ireturn, 1) := by decide +kernel
theorem d_X11_back_0 : decode cX11_back 0 = .ok (.aload_n 0, 1) := by decide +kernel
theorem d_X11_back_1 : decode cX11_back 1 = .ok (.getfield 19, 3) := by decide +kernel
theorem d_X11_back_4 : decode cX11_back 4 = .ok (.bipush 10, 2) := by decide +kernel
theorem d_X11_back_6 : decode cX11_back 6 = .ok (.if_icmp .lt 9, 3) := by decide +kernel
theorem d_X11_back_9 : decode cX11_back 9 = .ok (.aload_n 0, 1) := by decide +kernel
theorem d_X11_back_10 : decode cX11_back 10 = .ok (.iconst 2, 1) := by decide +kernel
theorem d_X11_back_11 : decode cX11_back 11 = .ok (.invokevirtual 55, 3) := by decide +kernel
theorem d_X11_back_14 : decode cX11_back 14 = .ok (.ireturn, 1) := by decide +kernel
theorem d_X11_back_15 : decode cX11_back 15 = .ok (.aload_n 0, 1) := by decide +kernel
theorem d_X11_back_16 : decode cX11_back 16 = .ok (.getfield 16, 3) := by decide +kernel
theorem d_X11_back_19 : decode cX11_back 19 = .ok (.ifnonnull 9, 3) := by decide +kernel
theorem d_X11_back_22 : decode cX11_back 22 = .ok (.aload_n 0, 1) := by decide +kernel
theorem d_X11_back_23 : decode cX11_back 23 = .ok (.iconst 3, 1) := by decide +kernel
theorem d_X11_back_24 : decode cX11_back 24 = .ok (.invokevirtual 55, 3) := by decide +kernel
theorem d_X11_back_27 : decode cX11_back 27 = .ok (.ireturn, 1) := by decide +kernel
theorem d_X11_back_28 : decode cX11_back 28 = .ok (.aload_n 0, 1) := by decide +kernel
theorem d_X11_back_29 : decode cX11_back 29 = .ok (.dup, 1) := by decide +kernel
theorem d_X11_back_30 : decode cX11_back 30 = .ok (.getfield 19, 3) := by decide +kernel
theorem d_X11_back_33 : decode cX11_back 33 = .ok (.iconst 1, 1) := by decide +kernel
theorem d_X11_back_34 : decode cX11_back 34 = .ok (.iadd, 1) := by decide +kernel
theorem d_X11_back_35 : decode cX11_back 35 = .ok (.putfield 19, 3) := by decide +kernel
theorem d_X11_back_38 : decode cX11_back 38 = .ok (.aload_n 0, 1) := by decide +kernel
theorem d_X11_back_39 : decode cX11_back 39 = .ok (.getfield 10, 3) := by decide +kernel
theorem d_X11_back_42 : decode cX11_back 42 = .ok (.aload_n 0, 1) := by decide +kernel
theorem d_X11_back_43 : decode cX11_back 43 = .ok (.getfield 16, 3) := by decide +kernel
theorem d_X11_back_46 : decode cX11_back 46 = .ok (.invokevirtual 237, 3) := by decide +kernel
theorem d_X11_back_49 : decode cX11_back 49 = .ok (.aload_n 0, 1) := by decide +kernel
theorem d_X11_back_50 : decode cX11_back 50 = .ok (.aload_n 0, 1) := by decide +kernel
theorem d_X11_back_51 : decode cX11_back 51 = .ok (.getfield 10, 3) := by decide +kernel
theorem d_X11_back_54 : decode cX11_back 54 = .ok (.getfield 194, 3) := by decide +kernel
theorem d_X11_back_57 : decode cX11_back 57 = .ok (.invokevirtual 72, 3) := by decide +kernel
theorem d_X11_back_60 : decode cX11_back 60 = .ok (.ireturn, 1) := by decide +kernel
theorem d_X11_height_0 : decode cX11_height 0 = .ok (.iload_n 1, 1) := by decide +kernel
theorem d_X11_height_1 : decode cX11_height 1 = .ok (.invokestatic 75, 3) := by decide +kernel
theorem d_X11_height_4 : decode cX11_height 4 = .ok (.ifCond .eq 14, 3) := by decide +kernel
theorem d_X11_height_7 : decode cX11_height 7 = .ok (.aload_n 0, 1) := by decide +kernel
theorem d_X11_height_8 : decode cX11_height 8 = .ok (.getfield 10, 3) := by decide +kernel
theorem d_X11_height_11 : decode cX11_height 11 = .ok (.iload_n 1, 1) := by decide +kernel
theorem d_X11_height_12 : decode cX11_height 12 = .ok (.invokevirtual 241, 3) := by decide +kernel
theorem d_X11_height_15 : decode cX11_height 15 = .ok (.goto 6, 3) := by decide +kernel
theorem d_X11_height_18 : decode cX11_height 18 = .ok (.sipush (-1000), 3) := by decide +kernel
theorem d_X11_height_21 : decode cX11_height 21 = .ok (.ireturn, 1) := by decide +kernel
theorem d_X11_stretchTold_0 : decode cX11_stretchTold 0 = .ok (.aload_n 0, 1) := by decide +kernel
theorem d_X11_stretchTold_1 : decode cX11_stretchTold 1 = .ok (.getfield 10, 3) := by decide +kernel
theorem d_X11_stretchTold_4 : decode cX11_stretchTold 4 = .ok (.iload_n 1, 1) := by decide +kernel
theorem d_X11_stretchTold_5 : decode cX11_stretchTold 5 = .ok (.invokevirtual 86, 3) := by decide +kernel
theorem d_X11_stretchTold_8 : decode cX11_stretchTold 8 = .ok (.ifCond .ne 7, 3) := by decide +kernel
theorem d_X11_stretchTold_11 : decode cX11_stretchTold 11 = .ok (.sipush (-1000), 3) := by decide +kernel
theorem d_X11_stretchTold_14 : decode cX11_stretchTold 14 = .ok (.ireturn, 1) := by decide +kernel
theorem d_X11_stretchTold_15 : decode cX11_stretchTold 15 = .ok (.aload_n 0, 1) := by decide +kernel
theorem d_X11_stretchTold_16 : decode cX11_stretchTold 16 = .ok (.getfield 10, 3) := by decide +kernel
theorem d_X11_stretchTold_19 : decode cX11_stretchTold 19 = .ok (.getfield 62, 3) := by decide +kernel
theorem d_X11_stretchTold_22 : decode cX11_stretchTold 22 = .ok (.iload_n 1, 1) := by decide +kernel
theorem d_X11_stretchTold_23 : decode cX11_stretchTold 23 = .ok (.aaload, 1) := by decide +kernel
theorem d_X11_stretchTold_24 : decode cX11_stretchTold 24 = .ok (.astore_n 3, 1) := by decide +kernel
theorem d_X11_stretchTold_25 : decode cX11_stretchTold 25 = .ok (.iload_n 2, 1) := by decide +kernel
theorem d_X11_stretchTold_26 : decode cX11_stretchTold 26 = .ok (.tableswitch 87 0 5 #[38, 43, 48, 53, 66, 78], 38) := by decide +kernel
theorem d_X11_stretchTold_64 : decode cX11_stretchTold 64 = .ok (.aload_n 3, 1) := by decide +kernel
theorem d_X11_stretchTold_65 : decode cX11_stretchTold 65 = .ok (.getfield 89, 3) := by decide +kernel
theorem d_X11_stretchTold_68 : decode cX11_stretchTold 68 = .ok (.ireturn, 1) := by decide +kernel
theorem d_X11_stretchTold_69 : decode cX11_stretchTold 69 = .ok (.aload_n 3, 1) := by decide +kernel
theorem d_X11_stretchTold_70 : decode cX11_stretchTold 70 = .ok (.getfield 244, 3) := by decide +kernel
theorem d_X11_stretchTold_73 : decode cX11_stretchTold 73 = .ok (.ireturn, 1) := by decide +kernel
theorem d_X11_stretchTold_74 : decode cX11_stretchTold 74 = .ok (.aload_n 3, 1) := by decide +kernel
theorem d_X11_stretchTold_75 : decode cX11_stretchTold 75 = .ok (.getfield 247, 3) := by decide +kernel
theorem d_X11_stretchTold_78 : decode cX11_stretchTold 78 = .ok (.ireturn, 1) := by decide +kernel
theorem d_X11_stretchTold_79 : decode cX11_stretchTold 79 = .ok (.aload_n 3, 1) := by decide +kernel
theorem d_X11_stretchTold_80 : decode cX11_stretchTold 80 = .ok (.getfield 103, 3) := by decide +kernel
theorem d_X11_stretchTold_83 : decode cX11_stretchTold 83 = .ok (.ifCond .eq 7, 3) := by decide +kernel
theorem d_X11_stretchTold_86 : decode cX11_stretchTold 86 = .ok (.iconst 1, 1) := by decide +kernel
theorem d_X11_stretchTold_87 : decode cX11_stretchTold 87 = .ok (.goto 4, 3) := by decide +kernel
theorem d_X11_stretchTold_90 : decode cX11_stretchTold 90 = .ok (.iconst 0, 1) := by decide +kernel
theorem d_X11_stretchTold_91 : decode cX11_stretchTold 91 = .ok (.ireturn, 1) := by decide +kernel
theorem d_X11_stretchTold_92 : decode cX11_stretchTold 92 = .ok (.aload_n 3, 1) := by decide +kernel
theorem d_X11_stretchTold_93 : decode cX11_stretchTold 93 = .ok (.aload_n 0, 1) := by decide +kernel
theorem d_X11_stretchTold_94 : decode cX11_stretchTold 94 = .ok (.getfield 10, 3) := by decide +kernel
theorem d_X11_stretchTold_97 : decode cX11_stretchTold 97 = .ok (.invokevirtual 180, 3) := by decide +kernel
theorem d_X11_stretchTold_100 : decode cX11_stretchTold 100 = .ok (.invokevirtual 250, 3) := by decide +kernel
theorem d_X11_stretchTold_103 : decode cX11_stretchTold 103 = .ok (.ireturn, 1) := by decide +kernel
theorem d_X11_stretchTold_104 : decode cX11_stretchTold 104 = .ok (.aload_n 0, 1) := by decide +kernel
theorem d_X11_stretchTold_105 : decode cX11_stretchTold 105 = .ok (.getfield 10, 3) := by decide +kernel
theorem d_X11_stretchTold_108 : decode cX11_stretchTold 108 = .ok (.iload_n 1, 1) := by decide +kernel
theorem d_X11_stretchTold_109 : decode cX11_stretchTold 109 = .ok (.invokevirtual 253, 3) := by decide +kernel
theorem d_X11_stretchTold_112 : decode cX11_stretchTold 112 = .ok (.ireturn, 1) := by decide +kernel
theorem d_X11_stretchTold_113 : decode cX11_stretchTold 113 = .ok (.sipush (-1000), 3) := by decide +kernel
theorem d_X11_stretchTold_116 : decode cX11_stretchTold 116 = .ok (.ireturn, 1) := by decide +kernel
theorem d_X11_water_0 : decode cX11_water 0 = .ok (.aload_n 0, 1) := by decide +kernel
theorem d_X11_water_1 : decode cX11_water 1 = .ok (.getfield 10, 3) := by decide +kernel
theorem d_X11_water_4 : decode cX11_water 4 = .ok (.iload_n 1, 1) := by decide +kernel
theorem d_X11_water_5 : decode cX11_water 5 = .ok (.invokevirtual 86, 3) := by decide +kernel
theorem d_X11_water_8 : decode cX11_water 8 = .ok (.ifCond .eq 22, 3) := by decide +kernel
theorem d_X11_water_11 : decode cX11_water 11 = .ok (.iload_n 2, 1) := by decide +kernel
theorem d_X11_water_12 : decode cX11_water 12 = .ok (.invokestatic 75, 3) := by decide +kernel
theorem d_X11_water_15 : decode cX11_water 15 = .ok (.ifCond .eq 15, 3) := by decide +kernel
theorem d_X11_water_18 : decode cX11_water 18 = .ok (.aload_n 0, 1) := by decide +kernel
theorem d_X11_water_19 : decode cX11_water 19 = .ok (.getfield 10, 3) := by decide +kernel
theorem d_X11_water_22 : decode cX11_water 22 = .ok (.iload_n 1, 1) := by decide +kernel
theorem d_X11_water_23 : decode cX11_water 23 = .ok (.iload_n 2, 1) := by decide +kernel
theorem d_X11_water_24 : decode cX11_water 24 = .ok (.invokevirtual 183, 3) := by decide +kernel
theorem d_X11_water_27 : decode cX11_water 27 = .ok (.goto 6, 3) := by decide +kernel
theorem d_X11_water_30 : decode cX11_water 30 = .ok (.sipush (-1000), 3) := by decide +kernel
theorem d_X11_water_33 : decode cX11_water 33 = .ok (.ireturn, 1) := by decide +kernel
theorem d_X11_boatTold_0 : decode cX11_boatTold 0 = .ok (.aload_n 0, 1) := by decide +kernel
theorem d_X11_boatTold_1 : decode cX11_boatTold 1 = .ok (.getfield 10, 3) := by decide +kernel
theorem d_X11_boatTold_4 : decode cX11_boatTold 4 = .ok (.iload_n 1, 1) := by decide +kernel
theorem d_X11_boatTold_5 : decode cX11_boatTold 5 = .ok (.invokevirtual 136, 3) := by decide +kernel
theorem d_X11_boatTold_8 : decode cX11_boatTold 8 = .ok (.ifCond .ne 5, 3) := by decide +kernel
theorem d_X11_boatTold_11 : decode cX11_boatTold 11 = .ok (.iconst (-1), 1) := by decide +kernel
theorem d_X11_boatTold_12 : decode cX11_boatTold 12 = .ok (.ireturn, 1) := by decide +kernel
theorem d_X11_boatTold_13 : decode cX11_boatTold 13 = .ok (.aload_n 0, 1) := by decide +kernel
theorem d_X11_boatTold_14 : decode cX11_boatTold 14 = .ok (.getfield 10, 3) := by decide +kernel
theorem d_X11_boatTold_17 : decode cX11_boatTold 17 = .ok (.getfield 113, 3) := by decide +kernel
theorem d_X11_boatTold_20 : decode cX11_boatTold 20 = .ok (.iload_n 1, 1) := by decide +kernel
theorem d_X11_boatTold_21 : decode cX11_boatTold 21 = .ok (.aaload, 1) := by decide +kernel
theorem d_X11_boatTold_22 : decode cX11_boatTold 22 = .ok (.astore_n 3, 1) := by decide +kernel
theorem d_X11_boatTold_23 : decode cX11_boatTold 23 = .ok (.iload_n 2, 1) := by decide +kernel
theorem d_X11_boatTold_24 : decode cX11_boatTold 24 = .ok (.tableswitch 81 0 5 #[40, 45, 50, 66, 71, 76], 40) := by decide +kernel
theorem d_X11_boatTold_64 : decode cX11_boatTold 64 = .ok (.aload_n 3, 1) := by decide +kernel
theorem d_X11_boatTold_65 : decode cX11_boatTold 65 = .ok (.getfield 142, 3) := by decide +kernel
theorem d_X11_boatTold_68 : decode cX11_boatTold 68 = .ok (.ireturn, 1) := by decide +kernel
theorem d_X11_boatTold_69 : decode cX11_boatTold 69 = .ok (.aload_n 3, 1) := by decide +kernel
theorem d_X11_boatTold_70 : decode cX11_boatTold 70 = .ok (.getfield 146, 3) := by decide +kernel
theorem d_X11_boatTold_73 : decode cX11_boatTold 73 = .ok (.ireturn, 1) := by decide +kernel
theorem d_X11_boatTold_74 : decode cX11_boatTold 74 = .ok (.aload_n 3, 1) := by decide +kernel
theorem d_X11_boatTold_75 : decode cX11_boatTold 75 = .ok (.invokevirtual 256, 3) := by decide +kernel
theorem d_X11_boatTold_78 : decode cX11_boatTold 78 = .ok (.ifCond .eq 10, 3) := by decide +kernel
theorem d_X11_boatTold_81 : decode cX11_boatTold 81 = .ok (.aload_n 3, 1) := by decide +kernel
theorem d_X11_boatTold_82 : decode cX11_boatTold 82 = .ok (.getfield 260, 3) := by decide +kernel
theorem d_X11_boatTold_85 : decode cX11_boatTold 85 = .ok (.goto 4, 3) := by decide +kernel
theorem d_X11_boatTold_88 : decode cX11_boatTold 88 = .ok (.iconst 0, 1) := by decide +kernel
theorem d_X11_boatTold_89 : decode cX11_boatTold 89 = .ok (.ireturn, 1) := by decide +kernel
theorem d_X11_boatTold_90 : decode cX11_boatTold 90 = .ok (.aload_n 3, 1) := by decide +kernel
theorem d_X11_boatTold_91 : decode cX11_boatTold 91 = .ok (.getfield 147, 3) := by decide +kernel
theorem d_X11_boatTold_94 : decode cX11_boatTold 94 = .ok (.ireturn, 1) := by decide +kernel
theorem d_X11_boatTold_95 : decode cX11_boatTold 95 = .ok (.aload_n 3, 1) := by decide +kernel
theorem d_X11_boatTold_96 : decode cX11_boatTold 96 = .ok (.invokevirtual 156, 3) := by decide +kernel
theorem d_X11_boatTold_99 : decode cX11_boatTold 99 = .ok (.ireturn, 1) := by decide +kernel
theorem d_X11_boatTold_100 : decode cX11_boatTold 100 = .ok (.aload_n 3, 1) := by decide +kernel
theorem d_X11_boatTold_101 : decode cX11_boatTold 101 = .ok (.getfield 209, 3) := by decide +kernel
theorem d_X11_boatTold_104 : decode cX11_boatTold 104 = .ok (.ireturn, 1) := by decide +kernel
theorem d_X11_boatTold_105 : decode cX11_boatTold 105 = .ok (.iconst (-1), 1) := by decide +kernel
theorem d_X11_boatTold_106 : decode cX11_boatTold 106 = .ok (.ireturn, 1) := by decide +kernel
theorem d_X11_baleTold_0 : decode cX11_baleTold 0 = .ok (.aload_n 0, 1) := by decide +kernel
theorem d_X11_baleTold_1 : decode cX11_baleTold 1 = .ok (.getfield 10, 3) := by decide +kernel
theorem d_X11_baleTold_4 : decode cX11_baleTold 4 = .ok (.iload_n 1, 1) := by decide +kernel
theorem d_X11_baleTold_5 : decode cX11_baleTold 5 = .ok (.invokevirtual 133, 3) := by decide +kernel
theorem d_X11_baleTold_8 : decode cX11_baleTold 8 = .ok (.ifCond .ne 5, 3) := by decide +kernel
theorem d_X11_baleTold_11 : decode cX11_baleTold 11 = .ok (.iconst (-1), 1) := by decide +kernel
theorem d_X11_baleTold_12 : decode cX11_baleTold 12 = .ok (.ireturn, 1) := by decide +kernel
theorem d_X11_baleTold_13 : decode cX11_baleTold 13 = .ok (.aload_n 0, 1) := by decide +kernel
theorem d_X11_baleTold_14 : decode cX11_baleTold 14 = .ok (.getfield 10, 3) := by decide +kernel
theorem d_X11_baleTold_17 : decode cX11_baleTold 17 = .ok (.getfield 126, 3) := by decide +kernel
theorem d_X11_baleTold_20 : decode cX11_baleTold 20 = .ok (.iload_n 1, 1) := by decide +kernel
theorem d_X11_baleTold_21 : decode cX11_baleTold 21 = .ok (.aaload, 1) := by decide +kernel
theorem d_X11_baleTold_22 : decode cX11_baleTold 22 = .ok (.astore_n 3, 1) := by decide +kernel
theorem d_X11_baleTold_23 : decode cX11_baleTold 23 = .ok (.iload_n 2, 1) := by decide +kernel
theorem d_X11_baleTold_24 : decode cX11_baleTold 24 = .ok (.tableswitch 61 0 4 #[36, 41, 46, 51, 56], 36) := by decide +kernel
theorem d_X11_baleTold_60 : decode cX11_baleTold 60 = .ok (.aload_n 3, 1) := by decide +kernel
theorem d_X11_baleTold_61 : decode cX11_baleTold 61 = .ok (.getfield 139, 3) := by decide +kernel
theorem d_X11_baleTold_64 : decode cX11_baleTold 64 = .ok (.ireturn, 1) := by decide +kernel
theorem d_X11_baleTold_65 : decode cX11_baleTold 65 = .ok (.aload_n 3, 1) := by decide +kernel
theorem d_X11_baleTold_66 : decode cX11_baleTold 66 = .ok (.getfield 143, 3) := by decide +kernel
theorem d_X11_baleTold_69 : decode cX11_baleTold 69 = .ok (.ireturn, 1) := by decide +kernel
theorem d_X11_baleTold_70 : decode cX11_baleTold 70 = .ok (.aload_n 3, 1) := by decide +kernel
theorem d_X11_baleTold_71 : decode cX11_baleTold 71 = .ok (.getfield 164, 3) := by decide +kernel
theorem d_X11_baleTold_74 : decode cX11_baleTold 74 = .ok (.ireturn, 1) := by decide +kernel
theorem d_X11_baleTold_75 : decode cX11_baleTold 75 = .ok (.aload_n 3, 1) := by decide +kernel
theorem d_X11_baleTold_76 : decode cX11_baleTold 76 = .ok (.getfield 150, 3) := by decide +kernel
theorem d_X11_baleTold_79 : decode cX11_baleTold 79 = .ok (.ireturn, 1) := by decide +kernel
theorem d_X11_baleTold_80 : decode cX11_baleTold 80 = .ok (.aload_n 3, 1) := by decide +kernel
theorem d_X11_baleTold_81 : decode cX11_baleTold 81 = .ok (.getfield 170, 3) := by decide +kernel
theorem d_X11_baleTold_84 : decode cX11_baleTold 84 = .ok (.ireturn, 1) := by decide +kernel
theorem d_X11_baleTold_85 : decode cX11_baleTold 85 = .ok (.iconst (-1), 1) := by decide +kernel
theorem d_X11_baleTold_86 : decode cX11_baleTold 86 = .ok (.ireturn, 1) := by decide +kernel
theorem d_X11_why_0 : decode cX11_why 0 = .ok (.aload_n 0, 1) := by decide +kernel
theorem d_X11_why_1 : decode cX11_why 1 = .ok (.getfield 10, 3) := by decide +kernel
theorem d_X11_why_4 : decode cX11_why 4 = .ok (.iload_n 1, 1) := by decide +kernel
theorem d_X11_why_5 : decode cX11_why 5 = .ok (.invokevirtual 136, 3) := by decide +kernel
theorem d_X11_why_8 : decode cX11_why 8 = .ok (.ifCond .eq 23, 3) := by decide +kernel
theorem d_X11_why_11 : decode cX11_why 11 = .ok (.aload_n 0, 1) := by decide +kernel
theorem d_X11_why_12 : decode cX11_why 12 = .ok (.getfield 10, 3) := by decide +kernel
theorem d_X11_why_15 : decode cX11_why 15 = .ok (.aload_n 0, 1) := by decide +kernel
theorem d_X11_why_16 : decode cX11_why 16 = .ok (.getfield 10, 3) := by decide +kernel
theorem d_X11_why_19 : decode cX11_why 19 = .ok (.getfield 113, 3) := by decide +kernel
theorem d_X11_why_22 : decode cX11_why 22 = .ok (.iload_n 1, 1) := by decide +kernel
theorem d_X11_why_23 : decode cX11_why 23 = .ok (.aaload, 1) := by decide +kernel
theorem d_X11_why_24 : decode cX11_why 24 = .ok (.iload_n 2, 1) := by decide +kernel
theorem d_X11_why_25 : decode cX11_why 25 = .ok (.invokevirtual 173, 3) := by decide +kernel
theorem d_X11_why_28 : decode cX11_why 28 = .ok (.goto 4, 3) := by decide +kernel
theorem d_X11_why_31 : decode cX11_why 31 = .ok (.iconst (-1), 1) := by decide +kernel
theorem d_X11_why_32 : decode cX11_why 32 = .ok (.ireturn, 1) := by decide +kernel
theorem d_X11_knows_0 : decode cX11_knows 0 = .ok (.aload_n 0, 1) := by decide +kernel
theorem d_X11_knows_1 : decode cX11_knows 1 = .ok (.getfield 10, 3) := by decide +kernel
theorem d_X11_knows_4 : decode cX11_knows 4 = .ok (.iload_n 1, 1) := by decide +kernel
theorem d_X11_knows_5 : decode cX11_knows 5 = .ok (.invokevirtual 136, 3) := by decide +kernel
theorem d_X11_knows_8 : decode cX11_knows 8 = .ok (.ifCond .eq 14, 3) := by decide +kernel
theorem d_X11_knows_11 : decode cX11_knows 11 = .ok (.aload_n 0, 1) := by decide +kernel
theorem d_X11_knows_12 : decode cX11_knows 12 = .ok (.getfield 10, 3) := by decide +kernel
theorem d_X11_knows_15 : decode cX11_knows 15 = .ok (.iload_n 2, 1) := by decide +kernel
theorem d_X11_knows_16 : decode cX11_knows 16 = .ok (.invokevirtual 86, 3) := by decide +kernel
theorem d_X11_knows_19 : decode cX11_knows 19 = .ok (.ifCond .ne 7, 3) := by decide +kernel
theorem d_X11_knows_22 : decode cX11_knows 22 = .ok (.sipush (-1000), 3) := by decide +kernel
theorem d_X11_knows_25 : decode cX11_knows 25 = .ok (.ireturn, 1) := by decide +kernel
theorem d_X11_knows_26 : decode cX11_knows 26 = .ok (.aload_n 0, 1) := by decide +kernel
theorem d_X11_knows_27 : decode cX11_knows 27 = .ok (.getfield 10, 3) := by decide +kernel
theorem d_X11_knows_30 : decode cX11_knows 30 = .ok (.getfield 113, 3) := by decide +kernel
theorem d_X11_knows_33 : decode cX11_knows 33 = .ok (.iload_n 1, 1) := by decide +kernel
theorem d_X11_knows_34 : decode cX11_knows 34 = .ok (.aaload, 1) := by decide +kernel
theorem d_X11_knows_35 : decode cX11_knows 35 = .ok (.getfield 263, 3) := by decide +kernel
theorem d_X11_knows_38 : decode cX11_knows 38 = .ok (.iload_n 2, 1) := by decide +kernel
theorem d_X11_knows_39 : decode cX11_knows 39 = .ok (.iload_n 3, 1) := by decide +kernel
theorem d_X11_knows_40 : decode cX11_knows 40 = .ok (.invokevirtual 267, 3) := by decide +kernel
theorem d_X11_knows_43 : decode cX11_knows 43 = .ok (.ireturn, 1) := by decide +kernel
theorem d_X11_box_0 : decode cX11_box 0 = .ok (.aload_n 0, 1) := by decide +kernel
theorem d_X11_box_1 : decode cX11_box 1 = .ok (.getfield 10, 3) := by decide +kernel
theorem d_X11_box_4 : decode cX11_box 4 = .ok (.iload_n 1, 1) := by decide +kernel
theorem d_X11_box_5 : decode cX11_box 5 = .ok (.invokevirtual 107, 3) := by decide +kernel
theorem d_X11_box_8 : decode cX11_box 8 = .ok (.ifCond .eq 14, 3) := by decide +kernel
theorem d_X11_box_11 : decode cX11_box 11 = .ok (.aload_n 0, 1) := by decide +kernel
theorem d_X11_box_12 : decode cX11_box 12 = .ok (.getfield 10, 3) := by decide +kernel
theorem d_X11_box_15 : decode cX11_box 15 = .ok (.iload_n 2, 1) := by decide +kernel
theorem d_X11_box_16 : decode cX11_box 16 = .ok (.invokevirtual 86, 3) := by decide +kernel
theorem d_X11_box_19 : decode cX11_box 19 = .ok (.ifCond .ne 7, 3) := by decide +kernel
theorem d_X11_box_22 : decode cX11_box 22 = .ok (.sipush (-1000), 3) := by decide +kernel
theorem d_X11_box_25 : decode cX11_box 25 = .ok (.ireturn, 1) := by decide +kernel
theorem d_X11_box_26 : decode cX11_box 26 = .ok (.aload_n 0, 1) := by decide +kernel
theorem d_X11_box_27 : decode cX11_box 27 = .ok (.getfield 10, 3) := by decide +kernel
theorem d_X11_box_30 : decode cX11_box 30 = .ok (.getfield 200, 3) := by decide +kernel
theorem d_X11_box_33 : decode cX11_box 33 = .ok (.iload_n 1, 1) := by decide +kernel
theorem d_X11_box_34 : decode cX11_box 34 = .ok (.aaload, 1) := by decide +kernel
theorem d_X11_box_35 : decode cX11_box 35 = .ok (.getfield 272, 3) := by decide +kernel
theorem d_X11_box_38 : decode cX11_box 38 = .ok (.iload_n 2, 1) := by decide +kernel
theorem d_X11_box_39 : decode cX11_box 39 = .ok (.iload_n 3, 1) := by decide +kernel
theorem d_X11_box_40 : decode cX11_box 40 = .ok (.invokevirtual 267, 3) := by decide +kernel
theorem d_X11_box_43 : decode cX11_box 43 = .ok (.ireturn, 1) := by decide +kernel
theorem d_X11_lading_0 : decode cX11_lading 0 = .ok (.aload_n 0, 1) := by decide +kernel
theorem d_X11_lading_1 : decode cX11_lading 1 = .ok (.getfield 10, 3) := by decide +kernel
theorem d_X11_lading_4 : decode cX11_lading 4 = .ok (.iload_n 1, 1) := by decide +kernel
theorem d_X11_lading_5 : decode cX11_lading 5 = .ok (.invokevirtual 136, 3) := by decide +kernel
theorem d_X11_lading_8 : decode cX11_lading 8 = .ok (.ifCond .ne 5, 3) := by decide +kernel
theorem d_X11_lading_11 : decode cX11_lading 11 = .ok (.iconst (-1), 1) := by decide +kernel
theorem d_X11_lading_12 : decode cX11_lading 12 = .ok (.ireturn, 1) := by decide +kernel
theorem d_X11_lading_13 : decode cX11_lading 13 = .ok (.aload_n 0, 1) := by decide +kernel
theorem d_X11_lading_14 : decode cX11_lading 14 = .ok (.getfield 10, 3) := by decide +kernel
theorem d_X11_lading_17 : decode cX11_lading 17 = .ok (.getfield 113, 3) := by decide +kernel
theorem d_X11_lading_20 : decode cX11_lading 20 = .ok (.iload_n 1, 1) := by decide +kernel
theorem d_X11_lading_21 : decode cX11_lading 21 = .ok (.aaload, 1) := by decide +kernel
theorem d_X11_lading_22 : decode cX11_lading 22 = .ok (.astore_n 3, 1) := by decide +kernel
theorem d_X11_lading_23 : decode cX11_lading 23 = .ok (.aload_n 3, 1) := by decide +kernel
theorem d_X11_lading_24 : decode cX11_lading 24 = .ok (.getfield 142, 3) := by decide +kernel
theorem d_X11_lading_27 : decode cX11_lading 27 = .ok (.ifCond .ne 11, 3) := by decide +kernel
theorem d_X11_lading_30 : decode cX11_lading 30 = .ok (.aload_n 3, 1) := by decide +kernel
theorem d_X11_lading_31 : decode cX11_lading 31 = .ok (.invokevirtual 156, 3) := by decide +kernel
theorem d_X11_lading_34 : decode cX11_lading 34 = .ok (.iload_n 2, 1) := by decide +kernel
theorem d_X11_lading_35 : decode cX11_lading 35 = .ok (.if_icmp .le 5, 3) := by decide +kernel
theorem d_X11_lading_38 : decode cX11_lading 38 = .ok (.iconst (-1), 1) := by decide +kernel
theorem d_X11_lading_39 : decode cX11_lading 39 = .ok (.ireturn, 1) := by decide +kernel
theorem d_X11_lading_40 : decode cX11_lading 40 = .ok (.aload_n 0, 1) := by decide +kernel
theorem d_X11_lading_41 : decode cX11_lading 41 = .ok (.aload_n 3, 1) := by decide +kernel
theorem d_X11_lading_42 : decode cX11_lading 42 = .ok (.iload_n 2, 1) := by decide +kernel
theorem d_X11_lading_43 : decode cX11_lading 43 = .ok (.aload_n 0, 1) := by decide +kernel
theorem d_X11_lading_44 : decode cX11_lading 44 = .ok (.aload_n 3, 1) := by decide +kernel
theorem d_X11_lading_45 : decode cX11_lading 45 = .ok (.getfield 146, 3) := by decide +kernel
theorem d_X11_lading_48 : decode cX11_lading 48 = .ok (.invokevirtual 273, 3) := by decide +kernel
theorem d_X11_lading_51 : decode cX11_lading 51 = .ok (.invokevirtual 276, 3) := by decide +kernel
theorem d_X11_lading_54 : decode cX11_lading 54 = .ok (.ireturn, 1) := by decide +kernel
theorem d_X11_wooding_0 : decode cX11_wooding 0 = .ok (.aload_n 0, 1) := by decide +kernel
theorem d_X11_wooding_1 : decode cX11_wooding 1 = .ok (.getfield 10, 3) := by decide +kernel
theorem d_X11_wooding_4 : decode cX11_wooding 4 = .ok (.iload_n 1, 1) := by decide +kernel
theorem d_X11_wooding_5 : decode cX11_wooding 5 = .ok (.invokevirtual 136, 3) := by decide +kernel
theorem d_X11_wooding_8 : decode cX11_wooding 8 = .ok (.ifCond .eq 25, 3) := by decide +kernel
theorem d_X11_wooding_11 : decode cX11_wooding 11 = .ok (.aload_n 0, 1) := by decide +kernel
theorem d_X11_wooding_12 : decode cX11_wooding 12 = .ok (.getfield 10, 3) := by decide +kernel
theorem d_X11_wooding_15 : decode cX11_wooding 15 = .ok (.iload_n 2, 1) := by decide +kernel
theorem d_X11_wooding_16 : decode cX11_wooding 16 = .ok (.invokevirtual 107, 3) := by decide +kernel
theorem d_X11_wooding_19 : decode cX11_wooding 19 = .ok (.ifCond .eq 14, 3) := by decide +kernel
theorem d_X11_wooding_22 : decode cX11_wooding 22 = .ok (.aload_n 0, 1) := by decide +kernel
theorem d_X11_wooding_23 : decode cX11_wooding 23 = .ok (.getfield 10, 3) := by decide +kernel
theorem d_X11_wooding_26 : decode cX11_wooding 26 = .ok (.iload_n 3, 1) := by decide +kernel
theorem d_X11_wooding_27 : decode cX11_wooding 27 = .ok (.invokevirtual 107, 3) := by decide +kernel
theorem d_X11_wooding_30 : decode cX11_wooding 30 = .ok (.ifCond .ne 5, 3) := by decide +kernel
theorem d_X11_wooding_33 : decode cX11_wooding 33 = .ok (.iconst (-1), 1) := by decide +kernel
theorem d_X11_wooding_34 : decode cX11_wooding 34 = .ok (.ireturn, 1) := by decide +kernel
theorem d_X11_wooding_35 : decode cX11_wooding 35 = .ok (.aload_n 0, 1) := by decide +kernel
theorem d_X11_wooding_36 : decode cX11_wooding 36 = .ok (.getfield 42, 3) := by decide +kernel
theorem d_X11_wooding_39 : decode cX11_wooding 39 = .ok (.aload_n 0, 1) := by decide +kernel
theorem d_X11_wooding_40 : decode cX11_wooding 40 = .ok (.getfield 10, 3) := by decide +kernel
theorem d_X11_wooding_43 : decode cX11_wooding 43 = .ok (.aload_n 0, 1) := by decide +kernel
theorem d_X11_wooding_44 : decode cX11_wooding 44 = .ok (.getfield 10, 3) := by decide +kernel
theorem d_X11_wooding_47 : decode cX11_wooding 47 = .ok (.getfield 113, 3) := by decide +kernel
theorem d_X11_wooding_50 : decode cX11_wooding 50 = .ok (.iload_n 1, 1) := by decide +kernel
theorem d_X11_wooding_51 : decode cX11_wooding 51 = .ok (.aaload, 1) := by decide +kernel
theorem d_X11_wooding_52 : decode cX11_wooding 52 = .ok (.getfield 212, 3) := by decide +kernel
theorem d_X11_wooding_55 : decode cX11_wooding 55 = .ok (.iload_n 2, 1) := by decide +kernel
theorem d_X11_wooding_56 : decode cX11_wooding 56 = .ok (.iload_n 3, 1) := by decide +kernel
theorem d_X11_wooding_57 : decode cX11_wooding 57 = .ok (.invokevirtual 280, 3) := by decide +kernel
theorem d_X11_wooding_60 : decode cX11_wooding 60 = .ok (.aload_n 0, 1) := by decide +kernel
theorem d_X11_wooding_61 : decode cX11_wooding 61 = .ok (.getfield 42, 3) := by decide +kernel
theorem d_X11_wooding_64 : decode cX11_wooding 64 = .ok (.invokevirtual 284, 3) := by decide +kernel
theorem d_X11_wooding_67 : decode cX11_wooding 67 = .ok (.ireturn, 1) := by decide +kernel
theorem d_X11_bought_0 : decode cX11_bought 0 = .ok (.aload_n 0, 1) := by decide +kernel
theorem d_X11_bought_1 : decode cX11_bought 1 = .ok (.getfield 10, 3) := by decide +kernel
theorem d_X11_bought_4 : decode cX11_bought 4 = .ok (.iload_n 1, 1) := by decide +kernel
theorem d_X11_bought_5 : decode cX11_bought 5 = .ok (.invokevirtual 136, 3) := by decide +kernel
theorem d_X11_bought_8 : decode cX11_bought 8 = .ok (.ifCond .eq 25, 3) := by decide +kernel
theorem d_X11_bought_11 : decode cX11_bought 11 = .ok (.aload_n 0, 1) := by decide +kernel
theorem d_X11_bought_12 : decode cX11_bought 12 = .ok (.getfield 10, 3) := by decide +kernel
theorem d_X11_bought_15 : decode cX11_bought 15 = .ok (.iload_n 2, 1) := by decide +kernel
theorem d_X11_bought_16 : decode cX11_bought 16 = .ok (.invokevirtual 107, 3) := by decide +kernel
theorem d_X11_bought_19 : decode cX11_bought 19 = .ok (.ifCond .eq 14, 3) := by decide +kernel
theorem d_X11_bought_22 : decode cX11_bought 22 = .ok (.aload_n 0, 1) := by decide +kernel
theorem d_X11_bought_23 : decode cX11_bought 23 = .ok (.getfield 10, 3) := by decide +kernel
theorem d_X11_bought_26 : decode cX11_bought 26 = .ok (.iload_n 3, 1) := by decide +kernel
theorem d_X11_bought_27 : decode cX11_bought 27 = .ok (.invokevirtual 107, 3) := by decide +kernel
theorem d_X11_bought_30 : decode cX11_bought 30 = .ok (.ifCond .ne 5, 3) := by decide +kernel
theorem d_X11_bought_33 : decode cX11_bought 33 = .ok (.iconst (-1), 1) := by decide +kernel
theorem d_X11_bought_34 : decode cX11_bought 34 = .ok (.ireturn, 1) := by decide +kernel
theorem d_X11_bought_35 : decode cX11_bought 35 = .ok (.aload_n 0, 1) := by decide +kernel
theorem d_X11_bought_36 : decode cX11_bought 36 = .ok (.getfield 42, 3) := by decide +kernel
theorem d_X11_bought_39 : decode cX11_bought 39 = .ok (.aload_n 0, 1) := by decide +kernel
theorem d_X11_bought_40 : decode cX11_bought 40 = .ok (.getfield 10, 3) := by decide +kernel
theorem d_X11_bought_43 : decode cX11_bought 43 = .ok (.aload_n 0, 1) := by decide +kernel
theorem d_X11_bought_44 : decode cX11_bought 44 = .ok (.getfield 10, 3) := by decide +kernel
theorem d_X11_bought_47 : decode cX11_bought 47 = .ok (.getfield 113, 3) := by decide +kernel
theorem d_X11_bought_50 : decode cX11_bought 50 = .ok (.iload_n 1, 1) := by decide +kernel
theorem d_X11_bought_51 : decode cX11_bought 51 = .ok (.aaload, 1) := by decide +kernel
theorem d_X11_bought_52 : decode cX11_bought 52 = .ok (.getfield 212, 3) := by decide +kernel
theorem d_X11_bought_55 : decode cX11_bought 55 = .ok (.iload_n 2, 1) := by decide +kernel
theorem d_X11_bought_56 : decode cX11_bought 56 = .ok (.iload_n 3, 1) := by decide +kernel
theorem d_X11_bought_57 : decode cX11_bought 57 = .ok (.invokevirtual 280, 3) := by decide +kernel
theorem d_X11_bought_60 : decode cX11_bought 60 = .ok (.aload_n 0, 1) := by decide +kernel
theorem d_X11_bought_61 : decode cX11_bought 61 = .ok (.getfield 42, 3) := by decide +kernel
theorem d_X11_bought_64 : decode cX11_bought 64 = .ok (.iload 4, 2) := by decide +kernel
theorem d_X11_bought_66 : decode cX11_bought 66 = .ok (.invokevirtual 287, 3) := by decide +kernel
theorem d_X11_bought_69 : decode cX11_bought 69 = .ok (.ireturn, 1) := by decide +kernel
theorem d_X11_lights_0 : decode cX11_lights 0 = .ok (.aload_n 0, 1) := by decide +kernel
theorem d_X11_lights_1 : decode cX11_lights 1 = .ok (.getfield 10, 3) := by decide +kernel
theorem d_X11_lights_4 : decode cX11_lights 4 = .ok (.invokevirtual 290, 3) := by decide +kernel
theorem d_X11_lights_7 : decode cX11_lights 7 = .ok (.istore_n 1, 1) := by decide +kernel
theorem d_X11_lights_8 : decode cX11_lights 8 = .ok (.iload_n 1, 1) := by decide +kernel
theorem d_X11_lights_9 : decode cX11_lights 9 = .ok (.istore_n 2, 1) := by decide +kernel
theorem d_X11_lights_10 : decode cX11_lights 10 = .ok (.iconst 0, 1) := by decide +kernel
theorem d_X11_lights_11 : decode cX11_lights 11 = .ok (.istore_n 3, 1) := by decide +kernel
theorem d_X11_lights_12 : decode cX11_lights 12 = .ok (.iload_n 3, 1) := by decide +kernel
theorem d_X11_lights_13 : decode cX11_lights 13 = .ok (.iload_n 1, 1) := by decide +kernel
theorem d_X11_lights_14 : decode cX11_lights 14 = .ok (.if_icmp .ge 57, 3) := by decide +kernel
theorem d_X11_lights_17 : decode cX11_lights 17 = .ok (.iload_n 3, 1) := by decide +kernel
theorem d_X11_lights_18 : decode cX11_lights 18 = .ok (.iload_n 1, 1) := by decide +kernel
theorem d_X11_lights_19 : decode cX11_lights 19 = .ok (.iconst (-1), 1) := by decide +kernel
theorem d_X11_lights_20 : decode cX11_lights 20 = .ok (.ixor, 1) := by decide +kernel
theorem d_X11_lights_21 : decode cX11_lights 21 = .ok (.iand, 1) := by decide +kernel
theorem d_X11_lights_22 : decode cX11_lights 22 = .ok (.ifCond .ne 18, 3) := by decide +kernel
theorem d_X11_lights_25 : decode cX11_lights 25 = .ok (.iload_n 3, 1) := by decide +kernel
theorem d_X11_lights_26 : decode cX11_lights 26 = .ok (.invokestatic 293, 3) := by decide +kernel
theorem d_X11_lights_29 : decode cX11_lights 29 = .ok (.iload_n 2, 1) := by decide +kernel
theorem d_X11_lights_30 : decode cX11_lights 30 = .ok (.invokestatic 293, 3) := by decide +kernel
theorem d_X11_lights_33 : decode cX11_lights 33 = .ok (.if_icmp .ge 7, 3) := by decide +kernel
theorem d_X11_lights_36 : decode cX11_lights 36 = .ok (.iconst 1, 1) := by decide +kernel
theorem d_X11_lights_37 : decode cX11_lights 37 = .ok (.goto 4, 3) := by decide +kernel
theorem d_X11_lights_40 : decode cX11_lights 40 = .ok (.iconst 0, 1) := by decide +kernel
theorem d_X11_lights_41 : decode cX11_lights 41 = .ok (.istore 4, 2) := by decide +kernel
theorem d_X11_lights_43 : decode cX11_lights 43 = .ok (.iload 4, 2) := by decide +kernel
theorem d_X11_lights_45 : decode cX11_lights 45 = .ok (.ifCond .eq 20, 3) := by decide +kernel
theorem d_X11_lights_48 : decode cX11_lights 48 = .ok (.aload_n 0, 1) := by decide +kernel
theorem d_X11_lights_49 : decode cX11_lights 49 = .ok (.getfield 10, 3) := by decide +kernel
theorem d_X11_lights_52 : decode cX11_lights 52 = .ok (.iload_n 1, 1) := by decide +kernel
theorem d_X11_lights_53 : decode cX11_lights 53 = .ok (.iload_n 3, 1) := by decide +kernel
theorem d_X11_lights_54 : decode cX11_lights 54 = .ok (.iconst (-1), 1) := by decide +kernel
theorem d_X11_lights_55 : decode cX11_lights 55 = .ok (.ixor, 1) := by decide +kernel
theorem d_X11_lights_56 : decode cX11_lights 56 = .ok (.iand, 1) := by decide +kernel
theorem d_X11_lights_57 : decode cX11_lights 57 = .ok (.invokevirtual 298, 3) := by decide +kernel
theorem d_X11_lights_60 : decode cX11_lights 60 = .ok (.ifCond .eq 5, 3) := by decide +kernel
theorem d_X11_lights_63 : decode cX11_lights 63 = .ok (.iload_n 3, 1) := by decide +kernel
theorem d_X11_lights_64 : decode cX11_lights 64 = .ok (.istore_n 2, 1) := by decide +kernel
theorem d_X11_lights_65 : decode cX11_lights 65 = .ok (.iinc 3 1, 3) := by decide +kernel
theorem d_X11_lights_68 : decode cX11_lights 68 = .ok (.goto (-56), 3) := by decide +kernel
theorem d_X11_lights_71 : decode cX11_lights 71 = .ok (.iload_n 2, 1) := by decide +kernel
theorem d_X11_lights_72 : decode cX11_lights 72 = .ok (.ireturn, 1) := by decide +kernel
theorem d_X11_gives_0 : decode cX11_gives 0 = .ok (.aload_n 0, 1) := by decide +kernel
theorem d_X11_gives_1 : decode cX11_gives 1 = .ok (.getfield 10, 3) := by decide +kernel
theorem d_X11_gives_4 : decode cX11_gives 4 = .ok (.iload_n 1, 1) := by decide +kernel
theorem d_X11_gives_5 : decode cX11_gives 5 = .ok (.invokevirtual 136, 3) := by decide +kernel
theorem d_X11_gives_8 : decode cX11_gives 8 = .ok (.ifCond .eq 30, 3) := by decide +kernel
theorem d_X11_gives_11 : decode cX11_gives 11 = .ok (.aload_n 0, 1) := by decide +kernel
theorem d_X11_gives_12 : decode cX11_gives 12 = .ok (.getfield 10, 3) := by decide +kernel
theorem d_X11_gives_15 : decode cX11_gives 15 = .ok (.iload_n 2, 1) := by decide +kernel
theorem d_X11_gives_16 : decode cX11_gives 16 = .ok (.invokevirtual 136, 3) := by decide +kernel
theorem d_X11_gives_19 : decode cX11_gives 19 = .ok (.ifCond .eq 19, 3) := by decide +kernel
theorem d_X11_gives_22 : decode cX11_gives 22 = .ok (.iload_n 1, 1) := by decide +kernel
theorem d_X11_gives_23 : decode cX11_gives 23 = .ok (.iload_n 2, 1) := by decide +kernel
theorem d_X11_gives_24 : decode cX11_gives 24 = .ok (.if_icmp .eq 14, 3) := by decide +kernel
theorem d_X11_gives_27 : decode cX11_gives 27 = .ok (.aload_n 0, 1) := by decide +kernel
theorem d_X11_gives_28 : decode cX11_gives 28 = .ok (.getfield 10, 3) := by decide +kernel
theorem d_X11_gives_31 : decode cX11_gives 31 = .ok (.iload_n 3, 1) := by decide +kernel
theorem d_X11_gives_32 : decode cX11_gives 32 = .ok (.invokevirtual 86, 3) := by decide +kernel
theorem d_X11_gives_35 : decode cX11_gives 35 = .ok (.ifCond .ne 5, 3) := by decide +kernel
theorem d_X11_gives_38 : decode cX11_gives 38 = .ok (.iconst (-1), 1) := by decide +kernel
theorem d_X11_gives_39 : decode cX11_gives 39 = .ok (.ireturn, 1) := by decide +kernel
theorem d_X11_gives_40 : decode cX11_gives 40 = .ok (.aload_n 0, 1) := by decide +kernel
theorem d_X11_gives_41 : decode cX11_gives 41 = .ok (.getfield 10, 3) := by decide +kernel
theorem d_X11_gives_44 : decode cX11_gives 44 = .ok (.getfield 62, 3) := by decide +kernel
theorem d_X11_gives_47 : decode cX11_gives 47 = .ok (.iload_n 3, 1) := by decide +kernel
theorem d_X11_gives_48 : decode cX11_gives 48 = .ok (.aaload, 1) := by decide +kernel
theorem d_X11_gives_49 : decode cX11_gives 49 = .ok (.getfield 89, 3) := by decide +kernel
theorem d_X11_gives_52 : decode cX11_gives 52 = .ok (.istore 6, 2) := by decide +kernel
theorem d_X11_gives_54 : decode cX11_gives 54 = .ok (.iconst (-1), 1) := by decide +kernel
theorem d_X11_gives_55 : decode cX11_gives 55 = .ok (.istore 7, 2) := by decide +kernel
theorem d_X11_gives_57 : decode cX11_gives 57 = .ok (.iconst 0, 1) := by decide +kernel
theorem d_X11_gives_58 : decode cX11_gives 58 = .ok (.istore 8, 2) := by decide +kernel
theorem d_X11_gives_60 : decode cX11_gives 60 = .ok (.iload 8, 2) := by decide +kernel
theorem d_X11_gives_62 : decode cX11_gives 62 = .ok (.aload_n 0, 1) := by decide +kernel
theorem d_X11_gives_63 : decode cX11_gives 63 = .ok (.getfield 10, 3) := by decide +kernel
theorem d_X11_gives_66 : decode cX11_gives 66 = .ok (.getfield 227, 3) := by decide +kernel
theorem d_X11_gives_69 : decode cX11_gives 69 = .ok (.if_icmp .ge 72, 3) := by decide +kernel
theorem d_X11_gives_72 : decode cX11_gives 72 = .ok (.iload 7, 2) := by decide +kernel
theorem d_X11_gives_74 : decode cX11_gives 74 = .ok (.iconst (-1), 1) := by decide +kernel
theorem d_X11_gives_75 : decode cX11_gives 75 = .ok (.if_icmp .ne 66, 3) := by decide +kernel
theorem d_X11_gives_78 : decode cX11_gives 78 = .ok (.aload_n 0, 1) := by decide +kernel
theorem d_X11_gives_79 : decode cX11_gives 79 = .ok (.getfield 10, 3) := by decide +kernel
theorem d_X11_gives_82 : decode cX11_gives 82 = .ok (.getfield 230, 3) := by decide +kernel
theorem d_X11_gives_85 : decode cX11_gives 85 = .ok (.iload 8, 2) := by decide +kernel
theorem d_X11_gives_87 : decode cX11_gives 87 = .ok (.aaload, 1) := by decide +kernel
theorem d_X11_gives_88 : decode cX11_gives 88 = .ok (.astore 9, 2) := by decide +kernel
theorem d_X11_gives_90 : decode cX11_gives 90 = .ok (.aload 9, 2) := by decide +kernel
theorem d_X11_gives_92 : decode cX11_gives 92 = .ok (.aload_n 0, 1) := by decide +kernel
theorem d_X11_gives_93 : decode cX11_gives 93 = .ok (.getfield 10, 3) := by decide +kernel
theorem d_X11_gives_96 : decode cX11_gives 96 = .ok (.invokevirtual 180, 3) := by decide +kernel
theorem d_X11_gives_99 : decode cX11_gives 99 = .ok (.invokevirtual 301, 3) := by decide +kernel
theorem d_X11_gives_102 : decode cX11_gives 102 = .ok (.ifCond .eq 33, 3) := by decide +kernel
theorem d_X11_gives_105 : decode cX11_gives 105 = .ok (.iload 6, 2) := by decide +kernel
theorem d_X11_gives_107 : decode cX11_gives 107 = .ok (.aload 9, 2) := by decide +kernel
theorem d_X11_gives_109 : decode cX11_gives 109 = .ok (.getfield 304, 3) := by decide +kernel
theorem d_X11_gives_112 : decode cX11_gives 112 = .ok (.invokestatic 92, 3) := by decide +kernel
theorem d_X11_gives_115 : decode cX11_gives 115 = .ok (.ifCond .eq 20, 3) := by decide +kernel
theorem d_X11_gives_118 : decode cX11_gives 118 = .ok (.aload_n 0, 1) := by decide +kernel
theorem d_X11_gives_119 : decode cX11_gives 119 = .ok (.aload 9, 2) := by decide +kernel
theorem d_X11_gives_121 : decode cX11_gives 121 = .ok (.getfield 305, 3) := by decide +kernel
theorem d_X11_gives_124 : decode cX11_gives 124 = .ok (.iload_n 1, 1) := by decide +kernel
theorem d_X11_gives_125 : decode cX11_gives 125 = .ok (.iload_n 2, 1) := by decide +kernel
theorem d_X11_gives_126 : decode cX11_gives 126 = .ok (.iload 4, 2) := by decide +kernel
theorem d_X11_gives_128 : decode cX11_gives 128 = .ok (.iload 5, 2) := by decide +kernel
theorem d_X11_gives_130 : decode cX11_gives 130 = .ok (.invokevirtual 306, 3) := by decide +kernel
theorem d_X11_gives_133 : decode cX11_gives 133 = .ok (.istore 7, 2) := by decide +kernel
theorem d_X11_gives_135 : decode cX11_gives 135 = .ok (.iinc 8 1, 3) := by decide +kernel
theorem d_X11_gives_138 : decode cX11_gives 138 = .ok (.goto (-78), 3) := by decide +kernel
theorem d_X11_gives_141 : decode cX11_gives 141 = .ok (.iload 7, 2) := by decide +kernel
theorem d_X11_gives_143 : decode cX11_gives 143 = .ok (.ireturn, 1) := by decide +kernel
theorem d_X11_count_0 : decode cX11_count 0 = .ok (.iload_n 1, 1) := by decide +kernel
theorem d_X11_count_1 : decode cX11_count 1 = .ok (.tableswitch 143 0 9 #[55, 63, 71, 79, 87, 95, 103, 111, 119, 135], 55) := by decide +kernel
theorem d_X11_count_56 : decode cX11_count 56 = .ok (.aload_n 0, 1) := by decide +kernel
theorem d_X11_count_57 : decode cX11_count 57 = .ok (.getfield 10, 3) := by decide +kernel
theorem d_X11_count_60 : decode cX11_count 60 = .ok (.getfield 59, 3) := by decide +kernel
theorem d_X11_count_63 : decode cX11_count 63 = .ok (.ireturn, 1) := by decide +kernel
theorem d_X11_count_64 : decode cX11_count 64 = .ok (.aload_n 0, 1) := by decide +kernel
theorem d_X11_count_65 : decode cX11_count 65 = .ok (.getfield 10, 3) := by decide +kernel
theorem d_X11_count_68 : decode cX11_count 68 = .ok (.getfield 110, 3) := by decide +kernel
theorem d_X11_count_71 : decode cX11_count 71 = .ok (.ireturn, 1) := by decide +kernel
theorem d_X11_count_72 : decode cX11_count 72 = .ok (.aload_n 0, 1) := by decide +kernel
theorem d_X11_count_73 : decode cX11_count 73 = .ok (.getfield 10, 3) := by decide +kernel
theorem d_X11_count_76 : decode cX11_count 76 = .ok (.getfield 123, 3) := by decide +kernel
theorem d_X11_count_79 : decode cX11_count 79 = .ok (.ireturn, 1) := by decide +kernel
theorem d_X11_count_80 : decode cX11_count 80 = .ok (.aload_n 0, 1) := by decide +kernel
theorem d_X11_count_81 : decode cX11_count 81 = .ok (.getfield 10, 3) := by decide +kernel
theorem d_X11_count_84 : decode cX11_count 84 = .ok (.getfield 215, 3) := by decide +kernel
theorem d_X11_count_87 : decode cX11_count 87 = .ok (.ireturn, 1) := by decide +kernel
theorem d_X11_count_88 : decode cX11_count 88 = .ok (.aload_n 0, 1) := by decide +kernel
theorem d_X11_count_89 : decode cX11_count 89 = .ok (.getfield 10, 3) := by decide +kernel
theorem d_X11_count_92 : decode cX11_count 92 = .ok (.getfield 227, 3) := by decide +kernel
theorem d_X11_count_95 : decode cX11_count 95 = .ok (.ireturn, 1) := by decide +kernel
theorem d_X11_count_96 : decode cX11_count 96 = .ok (.aload_n 0, 1) := by decide +kernel
theorem d_X11_count_97 : decode cX11_count 97 = .ok (.getfield 10, 3) := by decide +kernel
theorem d_X11_count_100 : decode cX11_count 100 = .ok (.getfield 194, 3) := by decide +kernel
theorem d_X11_count_103 : decode cX11_count 103 = .ok (.ireturn, 1) := by decide +kernel
theorem d_X11_count_104 : decode cX11_count 104 = .ok (.aload_n 0, 1) := by decide +kernel
theorem d_X11_count_105 : decode cX11_count 105 = .ok (.getfield 10, 3) := by decide +kernel
theorem d_X11_count_108 : decode cX11_count 108 = .ok (.getfield 167, 3) := by decide +kernel
theorem d_X11_count_111 : decode cX11_count 111 = .ok (.ireturn, 1) := by decide +kernel
theorem d_X11_count_112 : decode cX11_count 112 = .ok (.aload_n 0, 1) := by decide +kernel
theorem d_X11_count_113 : decode cX11_count 113 = .ok (.getfield 10, 3) := by decide +kernel
theorem d_X11_count_116 : decode cX11_count 116 = .ok (.invokevirtual 310, 3) := by decide +kernel
theorem d_X11_count_119 : decode cX11_count 119 = .ok (.ireturn, 1) := by decide +kernel
theorem d_X11_count_120 : decode cX11_count 120 = .ok (.aload_n 0, 1) := by decide +kernel
theorem d_X11_count_121 : decode cX11_count 121 = .ok (.getfield 10, 3) := by decide +kernel
theorem d_X11_count_124 : decode cX11_count 124 = .ok (.invokevirtual 313, 3) := by decide +kernel
theorem d_X11_count_127 : decode cX11_count 127 = .ok (.ifCond .eq 7, 3) := by decide +kernel
theorem d_X11_count_130 : decode cX11_count 130 = .ok (.iconst 1, 1) := by decide +kernel
theorem d_X11_count_131 : decode cX11_count 131 = .ok (.goto 4, 3) := by decide +kernel
theorem d_X11_count_134 : decode cX11_count 134 = .ok (.iconst 0, 1) := by decide +kernel
theorem d_X11_count_135 : decode cX11_count 135 = .ok (.ireturn, 1) := by decide +kernel
theorem d_X11_count_136 : decode cX11_count 136 = .ok (.aload_n 0, 1) := by decide +kernel
theorem d_X11_count_137 : decode cX11_count 137 = .ok (.getfield 35, 3) := by decide +kernel
theorem d_X11_count_140 : decode cX11_count 140 = .ok (.getfield 316, 3) := by decide +kernel
theorem d_X11_count_143 : decode cX11_count 143 = .ok (.ireturn, 1) := by decide +kernel
theorem d_X11_count_144 : decode cX11_count 144 = .ok (.iconst (-1), 1) := by decide +kernel
theorem d_X11_count_145 : decode cX11_count 145 = .ok (.ireturn, 1) := by decide +kernel
theorem d_X11_act_0 : decode cX11_act 0 = .ok (.aload_n 0, 1) := by decide +kernel
theorem d_X11_act_1 : decode cX11_act 1 = .ok (.getfield 10, 3) := by decide +kernel
theorem d_X11_act_4 : decode cX11_act 4 = .ok (.iload_n 1, 1) := by decide +kernel
theorem d_X11_act_5 : decode cX11_act 5 = .ok (.invokevirtual 86, 3) := by decide +kernel
theorem d_X11_act_8 : decode cX11_act 8 = .ok (.ifCond .eq 12, 3) := by decide +kernel
theorem d_X11_act_11 : decode cX11_act 11 = .ok (.iload_n 2, 1) := by decide +kernel
theorem d_X11_act_12 : decode cX11_act 12 = .ok (.iconst 0, 1) := by decide +kernel
theorem d_X11_act_13 : decode cX11_act 13 = .ok (.iconst 3, 1) := by decide +kernel
theorem d_X11_act_14 : decode cX11_act 14 = .ok (.invokestatic 51, 3) := by decide +kernel
theorem d_X11_act_17 : decode cX11_act 17 = .ok (.ifCond .ne 9, 3) := by decide +kernel
theorem d_X11_act_20 : decode cX11_act 20 = .ok (.aload_n 0, 1) := by decide +kernel
theorem d_X11_act_21 : decode cX11_act 21 = .ok (.iconst 1, 1) := by decide +kernel
theorem d_X11_act_22 : decode cX11_act 22 = .ok (.invokevirtual 55, 3) := by decide +kernel
theorem d_X11_act_25 : decode cX11_act 25 = .ok (.ireturn, 1) := by decide +kernel
theorem d_X11_act_26 : decode cX11_act 26 = .ok (.aload_n 0, 1) := by decide +kernel
theorem d_X11_act_27 : decode cX11_act 27 = .ok (.aload_n 0, 1) := by decide +kernel
theorem d_X11_act_28 : decode cX11_act 28 = .ok (.getfield 35, 3) := by decide +kernel
theorem d_X11_act_31 : decode cX11_act 31 = .ok (.aload_n 0, 1) := by decide +kernel
theorem d_X11_act_32 : decode cX11_act 32 = .ok (.getfield 10, 3) := by decide +kernel
theorem d_X11_act_35 : decode cX11_act 35 = .ok (.getfield 62, 3) := by decide +kernel
theorem d_X11_act_38 : decode cX11_act 38 = .ok (.iload_n 1, 1) := by decide +kernel
theorem d_X11_act_39 : decode cX11_act 39 = .ok (.aaload, 1) := by decide +kernel
theorem d_X11_act_40 : decode cX11_act 40 = .ok (.iload_n 2, 1) := by decide +kernel
theorem d_X11_act_41 : decode cX11_act 41 = .ok (.iload_n 3, 1) := by decide +kernel
theorem d_X11_act_42 : decode cX11_act 42 = .ok (.invokevirtual 319, 3) := by decide +kernel
theorem d_X11_act_45 : decode cX11_act 45 = .ok (.invokevirtual 72, 3) := by decide +kernel
theorem d_X11_act_48 : decode cX11_act 48 = .ok (.ireturn, 1) := by decide +kernel
theorem d_X11_trace_0 : decode cX11_trace 0 = .ok (.iload_n 1, 1) := by decide +kernel
theorem d_X11_trace_1 : decode cX11_trace 1 = .ok (.iconst 0, 1) := by decide +kernel
theorem d_X11_trace_2 : decode cX11_trace 2 = .ok (.aload_n 0, 1) := by decide +kernel
theorem d_X11_trace_3 : decode cX11_trace 3 = .ok (.getfield 35, 3) := by decide +kernel
theorem d_X11_trace_6 : decode cX11_trace 6 = .ok (.getfield 316, 3) := by decide +kernel
theorem d_X11_trace_9 : decode cX11_trace 9 = .ok (.iconst 1, 1) := by decide +kernel
theorem d_X11_trace_10 : decode cX11_trace 10 = .ok (.isub, 1) := by decide +kernel
theorem d_X11_trace_11 : decode cX11_trace 11 = .ok (.invokestatic 51, 3) := by decide +kernel
theorem d_X11_trace_14 : decode cX11_trace 14 = .ok (.ifCond .eq 15, 3) := by decide +kernel
theorem d_X11_trace_17 : decode cX11_trace 17 = .ok (.aload_n 0, 1) := by decide +kernel
theorem d_X11_trace_18 : decode cX11_trace 18 = .ok (.getfield 35, 3) := by decide +kernel
theorem d_X11_trace_21 : decode cX11_trace 21 = .ok (.getfield 322, 3) := by decide +kernel
theorem d_X11_trace_24 : decode cX11_trace 24 = .ok (.iload_n 1, 1) := by decide +kernel
theorem d_X11_trace_25 : decode cX11_trace 25 = .ok (.iaload, 1) := by decide +kernel
theorem d_X11_trace_26 : decode cX11_trace 26 = .ok (.goto 4, 3) := by decide +kernel
theorem d_X11_trace_29 : decode cX11_trace 29 = .ok (.iconst (-1), 1) := by decide +kernel
theorem d_X11_trace_30 : decode cX11_trace 30 = .ok (.ireturn, 1) := by decide +kernel
theorem d_X11_sheet_0 : decode cX11_sheet 0 = .ok (.iload_n 2, 1) := by decide +kernel
theorem d_X11_sheet_1 : decode cX11_sheet 1 = .ok (.iconst (-1), 1) := by decide +kernel
theorem d_X11_sheet_2 : decode cX11_sheet 2 = .ok (.if_icmp .ne 7, 3) := by decide +kernel
theorem d_X11_sheet_5 : decode cX11_sheet 5 = .ok (.iconst 1, 1) := by decide +kernel
theorem d_X11_sheet_6 : decode cX11_sheet 6 = .ok (.goto 4, 3) := by decide +kernel
theorem d_X11_sheet_9 : decode cX11_sheet 9 = .ok (.iconst 0, 1) := by decide +kernel
theorem d_X11_sheet_10 : decode cX11_sheet 10 = .ok (.istore 4, 2) := by decide +kernel
theorem d_X11_sheet_12 : decode cX11_sheet 12 = .ok (.iload_n 2, 1) := by decide +kernel
theorem d_X11_sheet_13 : decode cX11_sheet 13 = .ok (.iconst 0, 1) := by decide +kernel
theorem d_X11_sheet_14 : decode cX11_sheet 14 = .ok (.iconst 2, 1) := by decide +kernel
theorem d_X11_sheet_15 : decode cX11_sheet 15 = .ok (.invokestatic 51, 3) := by decide +kernel
theorem d_X11_sheet_18 : decode cX11_sheet 18 = .ok (.ifCond .eq 17, 3) := by decide +kernel
theorem d_X11_sheet_21 : decode cX11_sheet 21 = .ok (.iload_n 3, 1) := by decide +kernel
theorem d_X11_sheet_22 : decode cX11_sheet 22 = .ok (.iconst 0, 1) := by decide +kernel
theorem d_X11_sheet_23 : decode cX11_sheet 23 = .ok (.bipush 40, 2) := by decide +kernel
theorem d_X11_sheet_25 : decode cX11_sheet 25 = .ok (.invokestatic 51, 3) := by decide +kernel
theorem d_X11_sheet_28 : decode cX11_sheet 28 = .ok (.ifCond .eq 7, 3) := by decide +kernel
theorem d_X11_sheet_31 : decode cX11_sheet 31 = .ok (.iconst 1, 1) := by decide +kernel
theorem d_X11_sheet_32 : decode cX11_sheet 32 = .ok (.goto 4, 3) := by decide +kernel
theorem d_X11_sheet_35 : decode cX11_sheet 35 = .ok (.iconst 0, 1) := by decide +kernel
theorem d_X11_sheet_36 : decode cX11_sheet 36 = .ok (.istore 5, 2) := by decide +kernel
theorem d_X11_sheet_38 : decode cX11_sheet 38 = .ok (.iload_n 1, 1) := by decide +kernel
theorem d_X11_sheet_39 : decode cX11_sheet 39 = .ok (.invokestatic 325, 3) := by decide +kernel
theorem d_X11_sheet_42 : decode cX11_sheet 42 = .ok (.ifCond .eq 13, 3) := by decide +kernel
theorem d_X11_sheet_45 : decode cX11_sheet 45 = .ok (.iload 4, 2) := by decide +kernel
theorem d_X11_sheet_47 : decode cX11_sheet 47 = .ok (.ifCond .ne 14, 3) := by decide +kernel
theorem d_X11_sheet_50 : decode cX11_sheet 50 = .ok (.iload 5, 2) := by decide +kernel
theorem d_X11_sheet_52 : decode cX11_sheet 52 = .ok (.ifCond .ne 9, 3) := by decide +kernel
theorem d_X11_sheet_55 : decode cX11_sheet 55 = .ok (.aload_n 0, 1) := by decide +kernel
theorem d_X11_sheet_56 : decode cX11_sheet 56 = .ok (.iconst 1, 1) := by decide +kernel
theorem d_X11_sheet_57 : decode cX11_sheet 57 = .ok (.invokevirtual 55, 3) := by decide +kernel
theorem d_X11_sheet_60 : decode cX11_sheet 60 = .ok (.ireturn, 1) := by decide +kernel
theorem d_X11_sheet_61 : decode cX11_sheet 61 = .ok (.aload_n 0, 1) := by decide +kernel
theorem d_X11_sheet_62 : decode cX11_sheet 62 = .ok (.getfield 28, 3) := by decide +kernel
theorem d_X11_sheet_65 : decode cX11_sheet 65 = .ok (.iload_n 1, 1) := by decide +kernel
theorem d_X11_sheet_66 : decode cX11_sheet 66 = .ok (.aaload, 1) := by decide +kernel
theorem d_X11_sheet_67 : decode cX11_sheet 67 = .ok (.iload_n 2, 1) := by decide +kernel
theorem d_X11_sheet_68 : decode cX11_sheet 68 = .ok (.iload 4, 2) := by decide +kernel
theorem d_X11_sheet_70 : decode cX11_sheet 70 = .ok (.ifCond .eq 7, 3) := by decide +kernel
theorem d_X11_sheet_73 : decode cX11_sheet 73 = .ok (.iconst 0, 1) := by decide +kernel
theorem d_X11_sheet_74 : decode cX11_sheet 74 = .ok (.goto 4, 3) := by decide +kernel
theorem d_X11_sheet_77 : decode cX11_sheet 77 = .ok (.iload_n 3, 1) := by decide +kernel
theorem d_X11_sheet_78 : decode cX11_sheet 78 = .ok (.invokevirtual 328, 3) := by decide +kernel
theorem d_X11_sheet_81 : decode cX11_sheet 81 = .ok (.aload_n 0, 1) := by decide +kernel
theorem d_X11_sheet_82 : decode cX11_sheet 82 = .ok (.iconst 1, 1) := by decide +kernel
theorem d_X11_sheet_83 : decode cX11_sheet 83 = .ok (.invokevirtual 72, 3) := by decide +kernel
theorem d_X11_sheet_86 : decode cX11_sheet 86 = .ok (.ireturn, 1) := by decide +kernel
theorem d_X11_cell_0 : decode cX11_cell 0 = .ok (.iload_n 1, 1) := by decide +kernel
theorem d_X11_cell_1 : decode cX11_cell 1 = .ok (.invokestatic 325, 3) := by decide +kernel
theorem d_X11_cell_4 : decode cX11_cell 4 = .ok (.ifCond .eq 16, 3) := by decide +kernel
theorem d_X11_cell_7 : decode cX11_cell 7 = .ok (.iload_n 3, 1) := by decide +kernel
theorem d_X11_cell_8 : decode cX11_cell 8 = .ok (.sipush (-1000), 3) := by decide +kernel
theorem d_X11_cell_11 : decode cX11_cell 11 = .ok (.sipush 1000, 3) := by decide +kernel
theorem d_X11_cell_14 : decode cX11_cell 14 = .ok (.invokestatic 51, 3) := by decide +kernel
theorem d_X11_cell_17 : decode cX11_cell 17 = .ok (.ifCond .ne 9, 3) := by decide +kernel
theorem d_X11_cell_20 : decode cX11_cell 20 = .ok (.aload_n 0, 1) := by decide +kernel
theorem d_X11_cell_21 : decode cX11_cell 21 = .ok (.iconst 1, 1) := by decide +kernel
theorem d_X11_cell_22 : decode cX11_cell 22 = .ok (.invokevirtual 55, 3) := by decide +kernel
theorem d_X11_cell_25 : decode cX11_cell 25 = .ok (.ireturn, 1) := by decide +kernel
theorem d_X11_cell_26 : decode cX11_cell 26 = .ok (.aload_n 0, 1) := by decide +kernel
theorem d_X11_cell_27 : decode cX11_cell 27 = .ok (.getfield 28, 3) := by decide +kernel
theorem d_X11_cell_30 : decode cX11_cell 30 = .ok (.iload_n 1, 1) := by decide +kernel
theorem d_X11_cell_31 : decode cX11_cell 31 = .ok (.aaload, 1) := by decide +kernel
theorem d_X11_cell_32 : decode cX11_cell 32 = .ok (.astore 4, 2) := by decide +kernel
theorem d_X11_cell_34 : decode cX11_cell 34 = .ok (.aload 4, 2) := by decide +kernel
theorem d_X11_cell_36 : decode cX11_cell 36 = .ok (.invokevirtual 330, 3) := by decide +kernel
theorem d_X11_cell_39 : decode cX11_cell 39 = .ok (.ifCond .eq 10, 3) := by decide +kernel
theorem d_X11_cell_42 : decode cX11_cell 42 = .ok (.aload_n 0, 1) := by decide +kernel
theorem d_X11_cell_43 : decode cX11_cell 43 = .ok (.bipush 10, 2) := by decide +kernel
theorem d_X11_cell_45 : decode cX11_cell 45 = .ok (.invokevirtual 55, 3) := by decide +kernel
theorem d_X11_cell_48 : decode cX11_cell 48 = .ok (.ireturn, 1) := by decide +kernel
theorem d_X11_cell_49 : decode cX11_cell 49 = .ok (.aload 4, 2) := by decide +kernel
theorem d_X11_cell_51 : decode cX11_cell 51 = .ok (.iload_n 2, 1) := by decide +kernel
theorem d_X11_cell_52 : decode cX11_cell 52 = .ok (.invokevirtual 333, 3) := by decide +kernel
theorem d_X11_cell_55 : decode cX11_cell 55 = .ok (.ifCond .ne 10, 3) := by decide +kernel
theorem d_X11_cell_58 : decode cX11_cell 58 = .ok (.aload_n 0, 1) := by decide +kernel
theorem d_X11_cell_59 : decode cX11_cell 59 = .ok (.bipush 12, 2) := by decide +kernel
theorem d_X11_cell_61 : decode cX11_cell 61 = .ok (.invokevirtual 55, 3) := by decide +kernel
theorem d_X11_cell_64 : decode cX11_cell 64 = .ok (.ireturn, 1) := by decide +kernel
theorem d_X11_cell_65 : decode cX11_cell 65 = .ok (.aload 4, 2) := by decide +kernel
theorem d_X11_cell_67 : decode cX11_cell 67 = .ok (.iload_n 2, 1) := by decide +kernel
theorem d_X11_cell_68 : decode cX11_cell 68 = .ok (.iload_n 3, 1) := by decide +kernel
theorem d_X11_cell_69 : decode cX11_cell 69 = .ok (.invokevirtual 336, 3) := by decide +kernel
theorem d_X11_cell_72 : decode cX11_cell 72 = .ok (.aload_n 0, 1) := by decide +kernel
theorem d_X11_cell_73 : decode cX11_cell 73 = .ok (.iconst 1, 1) := by decide +kernel
theorem d_X11_cell_74 : decode cX11_cell 74 = .ok (.invokevirtual 72, 3) := by decide +kernel
theorem d_X11_cell_77 : decode cX11_cell 77 = .ok (.ireturn, 1) := by decide +kernel
theorem d_X11_none_0 : decode cX11_none 0 = .ok (.iload_n 1, 1) := by decide +kernel
theorem d_X11_none_1 : decode cX11_none 1 = .ok (.invokestatic 325, 3) := by decide +kernel
theorem d_X11_none_4 : decode cX11_none 4 = .ok (.ifCond .ne 9, 3) := by decide +kernel
theorem d_X11_none_7 : decode cX11_none 7 = .ok (.aload_n 0, 1) := by decide +kernel
theorem d_X11_none_8 : decode cX11_none 8 = .ok (.iconst 1, 1) := by decide +kernel
theorem d_X11_none_9 : decode cX11_none 9 = .ok (.invokevirtual 55, 3) := by decide +kernel
theorem d_X11_none_12 : decode cX11_none 12 = .ok (.ireturn, 1) := by decide +kernel
theorem d_X11_none_13 : decode cX11_none 13 = .ok (.aload_n 0, 1) := by decide +kernel
theorem d_X11_none_14 : decode cX11_none 14 = .ok (.getfield 28, 3) := by decide +kernel
theorem d_X11_none_17 : decode cX11_none 17 = .ok (.iload_n 1, 1) := by decide +kernel
theorem d_X11_none_18 : decode cX11_none 18 = .ok (.aaload, 1) := by decide +kernel
theorem d_X11_none_19 : decode cX11_none 19 = .ok (.astore_n 3, 1) := by decide +kernel
theorem d_X11_none_20 : decode cX11_none 20 = .ok (.aload_n 3, 1) := by decide +kernel
theorem d_X11_none_21 : decode cX11_none 21 = .ok (.iconst 2, 1) := by decide +kernel
theorem d_X11_none_22 : decode cX11_none 22 = .ok (.invokevirtual 339, 3) := by decide +kernel
theorem d_X11_none_25 : decode cX11_none 25 = .ok (.istore 4, 2) := by decide +kernel
theorem d_X11_none_27 : decode cX11_none 27 = .ok (.iload 4, 2) := by decide +kernel
theorem d_X11_none_29 : decode cX11_none 29 = .ok (.ifCond .eq 10, 3) := by decide +kernel
theorem d_X11_none_32 : decode cX11_none 32 = .ok (.aload_n 0, 1) := by decide +kernel
theorem d_X11_none_33 : decode cX11_none 33 = .ok (.iload 4, 2) := by decide +kernel
theorem d_X11_none_35 : decode cX11_none 35 = .ok (.invokevirtual 55, 3) := by decide +kernel
theorem d_X11_none_38 : decode cX11_none 38 = .ok (.ireturn, 1) := by decide +kernel
theorem d_X11_none_39 : decode cX11_none 39 = .ok (.aload_n 3, 1) := by decide +kernel
theorem d_X11_none_40 : decode cX11_none 40 = .ok (.iload_n 2, 1) := by decide +kernel
theorem d_X11_none_41 : decode cX11_none 41 = .ok (.invokevirtual 333, 3) := by decide +kernel
theorem d_X11_none_44 : decode cX11_none 44 = .ok (.ifCond .ne 10, 3) := by decide +kernel
theorem d_X11_none_47 : decode cX11_none 47 = .ok (.aload_n 0, 1) := by decide +kernel
theorem d_X11_none_48 : decode cX11_none 48 = .ok (.bipush 12, 2) := by decide +kernel
theorem d_X11_none_50 : decode cX11_none 50 = .ok (.invokevirtual 55, 3) := by decide +kernel
theorem d_X11_none_53 : decode cX11_none 53 = .ok (.ireturn, 1) := by decide +kernel
theorem d_X11_none_54 : decode cX11_none 54 = .ok (.aload_n 3, 1) := by decide +kernel
theorem d_X11_none_55 : decode cX11_none 55 = .ok (.getfield 342, 3) := by decide +kernel
theorem d_X11_none_58 : decode cX11_none 58 = .ok (.iload_n 2, 1) := by decide +kernel
theorem d_X11_none_59 : decode cX11_none 59 = .ok (.sipush (-9999), 3) := by decide +kernel
theorem d_X11_none_62 : decode cX11_none 62 = .ok (.iastore, 1) := by decide +kernel
theorem d_X11_none_63 : decode cX11_none 63 = .ok (.aload_n 0, 1) := by decide +kernel
theorem d_X11_none_64 : decode cX11_none 64 = .ok (.iconst 1, 1) := by decide +kernel
theorem d_X11_none_65 : decode cX11_none 65 = .ok (.invokevirtual 72, 3) := by decide +kernel
theorem d_X11_none_68 : decode cX11_none 68 = .ok (.ireturn, 1) := by decide +kernel
theorem d_X11_gauges_0 : decode cX11_gauges 0 = .ok (.iload_n 1, 1) := by decide +kernel
theorem d_X11_gauges_1 : decode cX11_gauges 1 = .ok (.invokestatic 75, 3) := by decide +kernel
theorem d_X11_gauges_4 : decode cX11_gauges 4 = .ok (.ifCond .eq 25, 3) := by decide +kernel
theorem d_X11_gauges_7 : decode cX11_gauges 7 = .ok (.iload_n 2, 1) := by decide +kernel
theorem d_X11_gauges_8 : decode cX11_gauges 8 = .ok (.invokestatic 325, 3) := by decide +kernel
theorem d_X11_gauges_11 : decode cX11_gauges 11 = .ok (.ifCond .eq 18, 3) := by decide +kernel
theorem d_X11_gauges_14 : decode cX11_gauges 14 = .ok (.iload 4, 2) := by decide +kernel
theorem d_X11_gauges_16 : decode cX11_gauges 16 = .ok (.iconst 0, 1) := by decide +kernel
theorem d_X11_gauges_17 : decode cX11_gauges 17 = .ok (.bipush 40, 2) := by decide +kernel
theorem d_X11_gauges_19 : decode cX11_gauges 19 = .ok (.invokestatic 51, 3) := by decide +kernel
theorem d_X11_gauges_22 : decode cX11_gauges 22 = .ok (.ifCond .eq 7, 3) := by decide +kernel
theorem d_X11_gauges_25 : decode cX11_gauges 25 = .ok (.iconst 1, 1) := by decide +kernel
theorem d_X11_gauges_26 : decode cX11_gauges 26 = .ok (.goto 4, 3) := by decide +kernel
theorem d_X11_gauges_29 : decode cX11_gauges 29 = .ok (.iconst 0, 1) := by decide +kernel
theorem d_X11_gauges_30 : decode cX11_gauges 30 = .ok (.istore 5, 2) := by decide +kernel
theorem d_X11_gauges_32 : decode cX11_gauges 32 = .ok (.iload 5, 2) := by decide +kernel
theorem d_X11_gauges_34 : decode cX11_gauges 34 = .ok (.ifCond .eq 12, 3) := by decide +kernel
theorem d_X11_gauges_37 : decode cX11_gauges 37 = .ok (.iload_n 1, 1) := by decide +kernel
theorem d_X11_gauges_38 : decode cX11_gauges 38 = .ok (.iload 4, 2) := by decide +kernel
theorem d_X11_gauges_40 : decode cX11_gauges 40 = .ok (.iadd, 1) := by decide +kernel
theorem d_X11_gauges_41 : decode cX11_gauges 41 = .ok (.bipush 100, 2) := by decide +kernel
theorem d_X11_gauges_43 : decode cX11_gauges 43 = .ok (.if_icmp .le 9, 3) := by decide +kernel
theorem d_X11_gauges_46 : decode cX11_gauges 46 = .ok (.aload_n 0, 1) := by decide +kernel
theorem d_X11_gauges_47 : decode cX11_gauges 47 = .ok (.iconst 1, 1) := by decide +kernel
theorem d_X11_gauges_48 : decode cX11_gauges 48 = .ok (.invokevirtual 55, 3) := by decide +kernel
theorem d_X11_gauges_51 : decode cX11_gauges 51 = .ok (.ireturn, 1) := by decide +kernel
theorem d_X11_gauges_52 : decode cX11_gauges 52 = .ok (.aload_n 0, 1) := by decide +kernel
theorem d_X11_gauges_53 : decode cX11_gauges 53 = .ok (.getfield 28, 3) := by decide +kernel
theorem d_X11_gauges_56 : decode cX11_gauges 56 = .ok (.iload_n 2, 1) := by decide +kernel
theorem d_X11_gauges_57 : decode cX11_gauges 57 = .ok (.aaload, 1) := by decide +kernel
theorem d_X11_gauges_58 : decode cX11_gauges 58 = .ok (.astore 6, 2) := by decide +kernel
theorem d_X11_gauges_60 : decode cX11_gauges 60 = .ok (.aload 6, 2) := by decide +kernel
theorem d_X11_gauges_62 : decode cX11_gauges 62 = .ok (.iconst 2, 1) := by decide +kernel
theorem d_X11_gauges_63 : decode cX11_gauges 63 = .ok (.invokevirtual 339, 3) := by decide +kernel
theorem d_X11_gauges_66 : decode cX11_gauges 66 = .ok (.istore 7, 2) := by decide +kernel
theorem d_X11_gauges_68 : decode cX11_gauges 68 = .ok (.iload 7, 2) := by decide +kernel
theorem d_X11_gauges_70 : decode cX11_gauges 70 = .ok (.ifCond .eq 10, 3) := by decide +kernel
theorem d_X11_gauges_73 : decode cX11_gauges 73 = .ok (.aload_n 0, 1) := by decide +kernel
theorem d_X11_gauges_74 : decode cX11_gauges 74 = .ok (.iload 7, 2) := by decide +kernel
theorem d_X11_gauges_76 : decode cX11_gauges 76 = .ok (.invokevirtual 55, 3) := by decide +kernel
theorem d_X11_gauges_79 : decode cX11_gauges 79 = .ok (.ireturn, 1) := by decide +kernel
theorem d_X11_gauges_80 : decode cX11_gauges 80 = .ok (.iconst 0, 1) := by decide +kernel
theorem d_X11_gauges_81 : decode cX11_gauges 81 = .ok (.istore 8, 2) := by decide +kernel
theorem d_X11_gauges_83 : decode cX11_gauges 83 = .ok (.iload 8, 2) := by decide +kernel
theorem d_X11_gauges_85 : decode cX11_gauges 85 = .ok (.iload 4, 2) := by decide +kernel
theorem d_X11_gauges_87 : decode cX11_gauges 87 = .ok (.if_icmp .ge 46, 3) := by decide +kernel
theorem d_X11_gauges_90 : decode cX11_gauges 90 = .ok (.aload 6, 2) := by decide +kernel
theorem d_X11_gauges_92 : decode cX11_gauges 92 = .ok (.iload_n 3, 1) := by decide +kernel
theorem d_X11_gauges_93 : decode cX11_gauges 93 = .ok (.iload 8, 2) := by decide +kernel
theorem d_X11_gauges_95 : decode cX11_gauges 95 = .ok (.iadd, 1) := by decide +kernel
theorem d_X11_gauges_96 : decode cX11_gauges 96 = .ok (.invokevirtual 333, 3) := by decide +kernel
theorem d_X11_gauges_99 : decode cX11_gauges 99 = .ok (.ifCond .ne 10, 3) := by decide +kernel
theorem d_X11_gauges_102 : decode cX11_gauges 102 = .ok (.aload_n 0, 1) := by decide +kernel
theorem d_X11_gauges_103 : decode cX11_gauges 103 = .ok (.bipush 12, 2) := by decide +kernel
theorem d_X11_gauges_105 : decode cX11_gauges 105 = .ok (.invokevirtual 55, 3) := by decide +kernel
theorem d_X11_gauges_108 : decode cX11_gauges 108 = .ok (.ireturn, 1) := by decide +kernel
theorem d_X11_gauges_109 : decode cX11_gauges 109 = .ok (.aload_n 0, 1) := by decide +kernel
theorem d_X11_gauges_110 : decode cX11_gauges 110 = .ok (.iload_n 1, 1) := by decide +kernel
theorem d_X11_gauges_111 : decode cX11_gauges 111 = .ok (.iload 8, 2) := by decide +kernel
theorem d_X11_gauges_113 : decode cX11_gauges 113 = .ok (.iadd, 1) := by decide +kernel
theorem d_X11_gauges_114 : decode cX11_gauges 114 = .ok (.aload 6, 2) := by decide +kernel
theorem d_X11_gauges_116 : decode cX11_gauges 116 = .ok (.getfield 342, 3) := by decide +kernel
theorem d_X11_gauges_119 : decode cX11_gauges 119 = .ok (.iload_n 3, 1) := by decide +kernel
theorem d_X11_gauges_120 : decode cX11_gauges 120 = .ok (.iload 8, 2) := by decide +kernel
theorem d_X11_gauges_122 : decode cX11_gauges 122 = .ok (.iadd, 1) := by decide +kernel
theorem d_X11_gauges_123 : decode cX11_gauges 123 = .ok (.iaload, 1) := by decide +kernel
theorem d_X11_gauges_124 : decode cX11_gauges 124 = .ok (.invokevirtual 345, 3) := by decide +kernel
theorem d_X11_gauges_127 : decode cX11_gauges 127 = .ok (.iinc 8 1, 3) := by decide +kernel
theorem d_X11_gauges_130 : decode cX11_gauges 130 = .ok (.goto (-47), 3) := by decide +kernel
theorem d_X11_gauges_133 : decode cX11_gauges 133 = .ok (.aload_n 0, 1) := by decide +kernel
theorem d_X11_gauges_134 : decode cX11_gauges 134 = .ok (.aload_n 0, 1) := by decide +kernel
theorem d_X11_gauges_135 : decode cX11_gauges 135 = .ok (.getfield 10, 3) := by decide +kernel
theorem d_X11_gauges_138 : decode cX11_gauges 138 = .ok (.getfield 83, 3) := by decide +kernel
theorem d_X11_gauges_141 : decode cX11_gauges 141 = .ok (.invokevirtual 72, 3) := by decide +kernel
theorem d_X11_gauges_144 : decode cX11_gauges 144 = .ok (.ireturn, 1) := by decide +kernel
theorem d_X11_forge_0 : decode cX11_forge 0 = .ok (.iload_n 2, 1) := by decide +kernel
theorem d_X11_forge_1 : decode cX11_forge 1 = .ok (.bipush (-100), 2) := by decide +kernel
theorem d_X11_forge_3 : decode cX11_forge 3 = .ok (.bipush 100, 2) := by decide +kernel
theorem d_X11_forge_5 : decode cX11_forge 5 = .ok (.invokestatic 51, 3) := by decide +kernel
theorem d_X11_forge_8 : decode cX11_forge 8 = .ok (.ifCond .eq 14, 3) := by decide +kernel
theorem d_X11_forge_11 : decode cX11_forge 11 = .ok (.iload_n 3, 1) := by decide +kernel
theorem d_X11_forge_12 : decode cX11_forge 12 = .ok (.bipush (-100), 2) := by decide +kernel
theorem d_X11_forge_14 : decode cX11_forge 14 = .ok (.bipush 100, 2) := by decide +kernel
theorem d_X11_forge_16 : decode cX11_forge 16 = .ok (.invokestatic 51, 3) := by decide +kernel
theorem d_X11_forge_19 : decode cX11_forge 19 = .ok (.ifCond .ne 9, 3) := by decide +kernel
theorem d_X11_forge_22 : decode cX11_forge 22 = .ok (.aload_n 0, 1) := by decide +kernel
theorem d_X11_forge_23 : decode cX11_forge 23 = .ok (.iconst 1, 1) := by decide +kernel
theorem d_X11_forge_24 : decode cX11_forge 24 = .ok (.invokevirtual 55, 3) := by decide +kernel
theorem d_X11_forge_27 : decode cX11_forge 27 = .ok (.ireturn, 1) := by decide +kernel
theorem d_X11_forge_28 : decode cX11_forge 28 = .ok (.iload_n 1, 1) := by decide +kernel
theorem d_X11_forge_29 : decode cX11_forge 29 = .ok (.tableswitch 168 0 6 #[43, 60, 79, 95, 111, 122, 145], 43) := by decide +kernel
theorem d_X11_forge_72 : decode cX11_forge 72 = .ok (.aload_n 0, 1) := by decide +kernel
theorem d_X11_forge_73 : decode cX11_forge 73 = .ok (.iload_n 2, 1) := by decide +kernel
theorem d_X11_forge_74 : decode cX11_forge 74 = .ok (.bipush 6, 2) := by decide +kernel
theorem d_X11_forge_76 : decode cX11_forge 76 = .ok (.invokestatic 348, 3) := by decide +kernel
theorem d_X11_forge_79 : decode cX11_forge 79 = .ok (.iload_n 3, 1) := by decide +kernel
theorem d_X11_forge_80 : decode cX11_forge 80 = .ok (.bipush 10, 2) := by decide +kernel
theorem d_X11_forge_82 : decode cX11_forge 82 = .ok (.invokestatic 348, 3) := by decide +kernel
theorem d_X11_forge_85 : decode cX11_forge 85 = .ok (.invokevirtual 353, 3) := by decide +kernel
theorem d_X11_forge_88 : decode cX11_forge 88 = .ok (.ireturn, 1) := by decide +kernel
theorem d_X11_forge_89 : decode cX11_forge 89 = .ok (.iload_n 2, 1) := by decide +kernel
theorem d_X11_forge_90 : decode cX11_forge 90 = .ok (.ifCond .ge 12, 3) := by decide +kernel
theorem d_X11_forge_93 : decode cX11_forge 93 = .ok (.aload_n 0, 1) := by decide +kernel
theorem d_X11_forge_94 : decode cX11_forge 94 = .ok (.bipush 13, 2) := by decide +kernel
theorem d_X11_forge_96 : decode cX11_forge 96 = .ok (.invokevirtual 55, 3) := by decide +kernel
theorem d_X11_forge_99 : decode cX11_forge 99 = .ok (.goto 8, 3) := by decide +kernel
theorem d_X11_forge_102 : decode cX11_forge 102 = .ok (.aload_n 0, 1) := by decide +kernel
theorem d_X11_forge_103 : decode cX11_forge 103 = .ok (.iload_n 2, 1) := by decide +kernel
theorem d_X11_forge_104 : decode cX11_forge 104 = .ok (.invokevirtual 72, 3) := by decide +kernel
theorem d_X11_forge_107 : decode cX11_forge 107 = .ok (.ireturn, 1) := by decide +kernel
theorem d_X11_forge_108 : decode cX11_forge 108 = .ok (.aload_n 0, 1) := by decide +kernel
theorem d_X11_forge_109 : decode cX11_forge 109 = .ok (.aload_n 0, 1) := by decide +kernel
theorem d_X11_forge_110 : decode cX11_forge 110 = .ok (.getfield 28, 3) := by decide +kernel
theorem d_X11_forge_113 : decode cX11_forge 113 = .ok (.iload_n 3, 1) := by decide +kernel
theorem d_X11_forge_114 : decode cX11_forge 114 = .ok (.iconst 4, 1) := by decide +kernel
theorem d_X11_forge_115 : decode cX11_forge 115 = .ok (.invokestatic 348, 3) := by decide +kernel
theorem d_X11_forge_118 : decode cX11_forge 118 = .ok (.aaload, 1) := by decide +kernel
theorem d_X11_forge_119 : decode cX11_forge 119 = .ok (.iload_n 2, 1) := by decide +kernel
theorem d_X11_forge_120 : decode cX11_forge 120 = .ok (.invokevirtual 356, 3) := by decide +kernel
theorem d_X11_forge_123 : decode cX11_forge 123 = .ok (.ireturn, 1) := by decide +kernel
theorem d_X11_forge_124 : decode cX11_forge 124 = .ok (.aload_n 0, 1) := by decide +kernel
theorem d_X11_forge_125 : decode cX11_forge 125 = .ok (.aload_n 0, 1) := by decide +kernel
theorem d_X11_forge_126 : decode cX11_forge 126 = .ok (.getfield 28, 3) := by decide +kernel
theorem d_X11_forge_129 : decode cX11_forge 129 = .ok (.iload_n 3, 1) := by decide +kernel
theorem d_X11_forge_130 : decode cX11_forge 130 = .ok (.iconst 4, 1) := by decide +kernel
theorem d_X11_forge_131 : decode cX11_forge 131 = .ok (.invokestatic 348, 3) := by decide +kernel
theorem d_X11_forge_134 : decode cX11_forge 134 = .ok (.aaload, 1) := by decide +kernel
theorem d_X11_forge_135 : decode cX11_forge 135 = .ok (.iload_n 2, 1) := by decide +kernel
theorem d_X11_forge_136 : decode cX11_forge 136 = .ok (.invokevirtual 360, 3) := by decide +kernel
theorem d_X11_forge_139 : decode cX11_forge 139 = .ok (.ireturn, 1) := by decide +kernel
theorem d_X11_forge_140 : decode cX11_forge 140 = .ok (.aload_n 0, 1) := by decide +kernel
theorem d_X11_forge_141 : decode cX11_forge 141 = .ok (.iload_n 3, 1) := by decide +kernel
theorem d_X11_forge_142 : decode cX11_forge 142 = .ok (.bipush 10, 2) := by decide +kernel
theorem d_X11_forge_144 : decode cX11_forge 144 = .ok (.invokestatic 348, 3) := by decide +kernel
theorem d_X11_forge_147 : decode cX11_forge 147 = .ok (.invokevirtual 363, 3) := by decide +kernel
theorem d_X11_forge_150 : decode cX11_forge 150 = .ok (.ireturn, 1) := by decide +kernel
theorem d_X11_forge_151 : decode cX11_forge 151 = .ok (.iload_n 2, 1) := by decide +kernel
theorem d_X11_forge_152 : decode cX11_forge 152 = .ok (.ifCond .ne 12, 3) := by decide +kernel
theorem d_X11_forge_155 : decode cX11_forge 155 = .ok (.aload_n 0, 1) := by decide +kernel
theorem d_X11_forge_156 : decode cX11_forge 156 = .ok (.bipush 15, 2) := by decide +kernel
theorem d_X11_forge_158 : decode cX11_forge 158 = .ok (.invokevirtual 55, 3) := by decide +kernel
theorem d_X11_forge_161 : decode cX11_forge 161 = .ok (.goto 12, 3) := by decide +kernel
theorem d_X11_forge_164 : decode cX11_forge 164 = .ok (.aload_n 0, 1) := by decide +kernel
theorem d_X11_forge_165 : decode cX11_forge 165 = .ok (.sipush 1000, 3) := by decide +kernel
theorem d_X11_forge_168 : decode cX11_forge 168 = .ok (.iload_n 2, 1) := by decide +kernel
theorem d_X11_forge_169 : decode cX11_forge 169 = .ok (.idiv, 1) := by decide +kernel
theorem d_X11_forge_170 : decode cX11_forge 170 = .ok (.invokevirtual 72, 3) := by decide +kernel
theorem d_X11_forge_173 : decode cX11_forge 173 = .ok (.ireturn, 1) := by decide +kernel
theorem d_X11_forge_174 : decode cX11_forge 174 = .ok (.iload_n 2, 1) := by decide +kernel
theorem d_X11_forge_175 : decode cX11_forge 175 = .ok (.iconst 2, 1) := by decide +kernel
theorem d_X11_forge_176 : decode cX11_forge 176 = .ok (.invokestatic 348, 3) := by decide +kernel
theorem d_X11_forge_179 : decode cX11_forge 179 = .ok (.ifCond .ne 12, 3) := by decide +kernel
theorem d_X11_forge_182 : decode cX11_forge 182 = .ok (.aload_n 0, 1) := by decide +kernel
theorem d_X11_forge_183 : decode cX11_forge 183 = .ok (.bipush 10, 2) := by decide +kernel
theorem d_X11_forge_185 : decode cX11_forge 185 = .ok (.invokevirtual 55, 3) := by decide +kernel
theorem d_X11_forge_188 : decode cX11_forge 188 = .ok (.goto 8, 3) := by decide +kernel
theorem d_X11_forge_191 : decode cX11_forge 191 = .ok (.aload_n 0, 1) := by decide +kernel
theorem d_X11_forge_192 : decode cX11_forge 192 = .ok (.iconst 1, 1) := by decide +kernel
theorem d_X11_forge_193 : decode cX11_forge 193 = .ok (.invokevirtual 72, 3) := by decide +kernel
theorem d_X11_forge_196 : decode cX11_forge 196 = .ok (.ireturn, 1) := by decide +kernel
theorem d_X11_forge_197 : decode cX11_forge 197 = .ok (.aload_n 0, 1) := by decide +kernel
theorem d_X11_forge_198 : decode cX11_forge 198 = .ok (.iconst 1, 1) := by decide +kernel
theorem d_X11_forge_199 : decode cX11_forge 199 = .ok (.invokevirtual 55, 3) := by decide +kernel
theorem d_X11_forge_202 : decode cX11_forge 202 = .ok (.ireturn, 1) := by decide +kernel
theorem d_X11_status_0 : decode cX11_status 0 = .ok (.aload_n 0, 1) := by decide +kernel
theorem d_X11_status_1 : decode cX11_status 1 = .ok (.getfield 23, 3) := by decide +kernel
theorem d_X11_status_4 : decode cX11_status 4 = .ok (.ireturn, 1) := by decide +kernel
theorem d_X11_done_0 : decode cX11_done 0 = .ok (.aload_n 0, 1) := by decide +kernel
theorem d_X11_done_1 : decode cX11_done 1 = .ok (.iconst 0, 1) := by decide +kernel
theorem d_X11_done_2 : decode cX11_done 2 = .ok (.putfield 23, 3) := by decide +kernel
theorem d_X11_done_5 : decode cX11_done 5 = .ok (.iload_n 1, 1) := by decide +kernel
theorem d_X11_done_6 : decode cX11_done 6 = .ok (.ireturn, 1) := by decide +kernel
theorem d_X11_refused_0 : decode cX11_refused 0 = .ok (.aload_n 0, 1) := by decide +kernel
theorem d_X11_refused_1 : decode cX11_refused 1 = .ok (.iload_n 1, 1) := by decide +kernel
theorem d_X11_refused_2 : decode cX11_refused 2 = .ok (.putfield 23, 3) := by decide +kernel
theorem d_X11_refused_5 : decode cX11_refused 5 = .ok (.iconst (-1), 1) := by decide +kernel
theorem d_X11_refused_6 : decode cX11_refused 6 = .ok (.ireturn, 1) := by decide +kernel
theorem d_X11_isWithin_0 : decode cX11_isWithin 0 = .ok (.iload_n 0, 1) := by decide +kernel
theorem d_X11_isWithin_1 : decode cX11_isWithin 1 = .ok (.iload_n 1, 1) := by decide +kernel
theorem d_X11_isWithin_2 : decode cX11_isWithin 2 = .ok (.if_icmp .lt 12, 3) := by decide +kernel
theorem d_X11_isWithin_5 : decode cX11_isWithin 5 = .ok (.iload_n 0, 1) := by decide +kernel
theorem d_X11_isWithin_6 : decode cX11_isWithin 6 = .ok (.iload_n 2, 1) := by decide +kernel
theorem d_X11_isWithin_7 : decode cX11_isWithin 7 = .ok (.if_icmp .gt 7, 3) := by decide +kernel
theorem d_X11_isWithin_10 : decode cX11_isWithin 10 = .ok (.iconst 1, 1) := by decide +kernel
theorem d_X11_isWithin_11 : decode cX11_isWithin 11 = .ok (.goto 4, 3) := by decide +kernel
theorem d_X11_isWithin_14 : decode cX11_isWithin 14 = .ok (.iconst 0, 1) := by decide +kernel
theorem d_X11_isWithin_15 : decode cX11_isWithin 15 = .ok (.ireturn, 1) := by decide +kernel
theorem d_X11_isDay_0 : decode cX11_isDay 0 = .ok (.iload_n 0, 1) := by decide +kernel
theorem d_X11_isDay_1 : decode cX11_isDay 1 = .ok (.iconst 0, 1) := by decide +kernel
theorem d_X11_isDay_2 : decode cX11_isDay 2 = .ok (.bipush 99, 2) := by decide +kernel
theorem d_X11_isDay_4 : decode cX11_isDay 4 = .ok (.invokestatic 51, 3) := by decide +kernel
theorem d_X11_isDay_7 : decode cX11_isDay 7 = .ok (.ireturn, 1) := by decide +kernel
theorem d_X11_isSheet_0 : decode cX11_isSheet 0 = .ok (.iload_n 0, 1) := by decide +kernel
theorem d_X11_isSheet_1 : decode cX11_isSheet 1 = .ok (.iconst 0, 1) := by decide +kernel
theorem d_X11_isSheet_2 : decode cX11_isSheet 2 = .ok (.iconst 3, 1) := by decide +kernel
theorem d_X11_isSheet_3 : decode cX11_isSheet 3 = .ok (.invokestatic 51, 3) := by decide +kernel
theorem d_X11_isSheet_6 : decode cX11_isSheet 6 = .ok (.ireturn, 1) := by decide +kernel
theorem d_X11_isUnder_0 : decode cX11_isUnder 0 = .ok (.iload_n 0, 1) := by decide +kernel
theorem d_X11_isUnder_1 : decode cX11_isUnder 1 = .ok (.istore_n 2, 1) := by decide +kernel
theorem d_X11_isUnder_2 : decode cX11_isUnder 2 = .ok (.iconst 0, 1) := by decide +kernel
theorem d_X11_isUnder_3 : decode cX11_isUnder 3 = .ok (.istore_n 3, 1) := by decide +kernel
theorem d_X11_isUnder_4 : decode cX11_isUnder 4 = .ok (.iload_n 3, 1) := by decide +kernel
theorem d_X11_isUnder_5 : decode cX11_isUnder 5 = .ok (.bipush 6, 2) := by decide +kernel
theorem d_X11_isUnder_7 : decode cX11_isUnder 7 = .ok (.if_icmp .ge 25, 3) := by decide +kernel
theorem d_X11_isUnder_10 : decode cX11_isUnder 10 = .ok (.iload_n 2, 1) := by decide +kernel
theorem d_X11_isUnder_11 : decode cX11_isUnder 11 = .ok (.iload_n 1, 1) := by decide +kernel
theorem d_X11_isUnder_12 : decode cX11_isUnder 12 = .ok (.if_icmp .eq 20, 3) := by decide +kernel
theorem d_X11_isUnder_15 : decode cX11_isUnder 15 = .ok (.iload_n 2, 1) := by decide +kernel
theorem d_X11_isUnder_16 : decode cX11_isUnder 16 = .ok (.iconst (-1), 1) := by decide +kernel
theorem d_X11_isUnder_17 : decode cX11_isUnder 17 = .ok (.if_icmp .eq 15, 3) := by decide +kernel
theorem d_X11_isUnder_20 : decode cX11_isUnder 20 = .ok (.getstatic 366, 3) := by decide +kernel
theorem d_X11_isUnder_23 : decode cX11_isUnder 23 = .ok (.iload_n 2, 1) := by decide +kernel
theorem d_X11_isUnder_24 : decode cX11_isUnder 24 = .ok (.iaload, 1) := by decide +kernel
theorem d_X11_isUnder_25 : decode cX11_isUnder 25 = .ok (.istore_n 2, 1) := by decide +kernel
theorem d_X11_isUnder_26 : decode cX11_isUnder 26 = .ok (.iinc 3 1, 3) := by decide +kernel
theorem d_X11_isUnder_29 : decode cX11_isUnder 29 = .ok (.goto (-25), 3) := by decide +kernel
theorem d_X11_isUnder_32 : decode cX11_isUnder 32 = .ok (.iload_n 2, 1) := by decide +kernel
theorem d_X11_isUnder_33 : decode cX11_isUnder 33 = .ok (.iload_n 1, 1) := by decide +kernel
theorem d_X11_isUnder_34 : decode cX11_isUnder 34 = .ok (.if_icmp .ne 7, 3) := by decide +kernel
theorem d_X11_isUnder_37 : decode cX11_isUnder 37 = .ok (.iconst 1, 1) := by decide +kernel
theorem d_X11_isUnder_38 : decode cX11_isUnder 38 = .ok (.goto 4, 3) := by decide +kernel
theorem d_X11_isUnder_41 : decode cX11_isUnder 41 = .ok (.iconst 0, 1) := by decide +kernel
theorem d_X11_isUnder_42 : decode cX11_isUnder 42 = .ok (.ireturn, 1) := by decide +kernel
theorem d_X11_listBalesAt_0 : decode cX11_listBalesAt 0 = .ok (.iconst 0, 1) := by decide +kernel
theorem d_X11_listBalesAt_1 : decode cX11_listBalesAt 1 = .ok (.istore_n 2, 1) := by decide +kernel
theorem d_X11_listBalesAt_2 : decode cX11_listBalesAt 2 = .ok (.iconst 0, 1) := by decide +kernel
theorem d_X11_listBalesAt_3 : decode cX11_listBalesAt 3 = .ok (.istore_n 3, 1) := by decide +kernel
theorem d_X11_listBalesAt_4 : decode cX11_listBalesAt 4 = .ok (.iload_n 3, 1) := by decide +kernel
theorem d_X11_listBalesAt_5 : decode cX11_listBalesAt 5 = .ok (.aload_n 0, 1) := by decide +kernel
theorem d_X11_listBalesAt_6 : decode cX11_listBalesAt 6 = .ok (.getfield 10, 3) := by decide +kernel
theorem d_X11_listBalesAt_9 : decode cX11_listBalesAt 9 = .ok (.getfield 123, 3) := by decide +kernel
theorem d_X11_listBalesAt_12 : decode cX11_listBalesAt 12 = .ok (.if_icmp .ge 47, 3) := by decide +kernel
theorem d_X11_listBalesAt_15 : decode cX11_listBalesAt 15 = .ok (.aload_n 0, 1) := by decide +kernel
theorem d_X11_listBalesAt_16 : decode cX11_listBalesAt 16 = .ok (.getfield 10, 3) := by decide +kernel
theorem d_X11_listBalesAt_19 : decode cX11_listBalesAt 19 = .ok (.getfield 126, 3) := by decide +kernel
theorem d_X11_listBalesAt_22 : decode cX11_listBalesAt 22 = .ok (.iload_n 3, 1) := by decide +kernel
theorem d_X11_listBalesAt_23 : decode cX11_listBalesAt 23 = .ok (.aaload, 1) := by decide +kernel
theorem d_X11_listBalesAt_24 : decode cX11_listBalesAt 24 = .ok (.astore 4, 2) := by decide +kernel
theorem d_X11_listBalesAt_26 : decode cX11_listBalesAt 26 = .ok (.aload 4, 2) := by decide +kernel
theorem d_X11_listBalesAt_28 : decode cX11_listBalesAt 28 = .ok (.getfield 139, 3) := by decide +kernel
theorem d_X11_listBalesAt_31 : decode cX11_listBalesAt 31 = .ok (.ifCond .ne 22, 3) := by decide +kernel
theorem d_X11_listBalesAt_34 : decode cX11_listBalesAt 34 = .ok (.aload 4, 2) := by decide +kernel
theorem d_X11_listBalesAt_36 : decode cX11_listBalesAt 36 = .ok (.getfield 143, 3) := by decide +kernel
theorem d_X11_listBalesAt_39 : decode cX11_listBalesAt 39 = .ok (.iload_n 1, 1) := by decide +kernel
theorem d_X11_listBalesAt_40 : decode cX11_listBalesAt 40 = .ok (.if_icmp .ne 13, 3) := by decide +kernel
theorem d_X11_listBalesAt_43 : decode cX11_listBalesAt 43 = .ok (.aload_n 0, 1) := by decide +kernel
theorem d_X11_listBalesAt_44 : decode cX11_listBalesAt 44 = .ok (.getfield 46, 3) := by decide +kernel
theorem d_X11_listBalesAt_47 : decode cX11_listBalesAt 47 = .ok (.iload_n 2, 1) := by decide +kernel
theorem d_X11_listBalesAt_48 : decode cX11_listBalesAt 48 = .ok (.iload_n 3, 1) := by decide +kernel
theorem d_X11_listBalesAt_49 : decode cX11_listBalesAt 49 = .ok (.iastore, 1) := by decide +kernel
theorem d_X11_listBalesAt_50 : decode cX11_listBalesAt 50 = .ok (.iinc 2 1, 3) := by decide +kernel
theorem d_X11_listBalesAt_53 : decode cX11_listBalesAt 53 = .ok (.iinc 3 1, 3) := by decide +kernel
theorem d_X11_listBalesAt_56 : decode cX11_listBalesAt 56 = .ok (.goto (-52), 3) := by decide +kernel
theorem d_X11_listBalesAt_59 : decode cX11_listBalesAt 59 = .ok (.iload_n 2, 1) := by decide +kernel
theorem d_X11_listBalesAt_60 : decode cX11_listBalesAt 60 = .ok (.ireturn, 1) := by decide +kernel
theorem d_X11_bestSet_0 : decode cX11_bestSet 0 = .ok (.iconst 0, 1) := by decide +kernel
theorem d_X11_bestSet_1 : decode cX11_bestSet 1 = .ok (.istore 4, 2) := by decide +kernel
theorem d_X11_bestSet_3 : decode cX11_bestSet 3 = .ok (.iconst 0, 1) := by decide +kernel
theorem d_X11_bestSet_4 : decode cX11_bestSet 4 = .ok (.istore 5, 2) := by decide +kernel
theorem d_X11_bestSet_6 : decode cX11_bestSet 6 = .ok (.iconst 0, 1) := by decide +kernel
theorem d_X11_bestSet_7 : decode cX11_bestSet 7 = .ok (.istore 6, 2) := by decide +kernel
theorem d_X11_bestSet_9 : decode cX11_bestSet 9 = .ok (.iconst 0, 1) := by decide +kernel
theorem d_X11_bestSet_10 : decode cX11_bestSet 10 = .ok (.istore 7, 2) := by decide +kernel
theorem d_X11_bestSet_12 : decode cX11_bestSet 12 = .ok (.iconst 0, 1) := by decide +kernel
theorem d_X11_bestSet_13 : decode cX11_bestSet 13 = .ok (.istore 8, 2) := by decide +kernel
theorem d_X11_bestSet_15 : decode cX11_bestSet 15 = .ok (.iconst 0, 1) := by decide +kernel
theorem d_X11_bestSet_16 : decode cX11_bestSet 16 = .ok (.istore 9, 2) := by decide +kernel
theorem d_X11_bestSet_18 : decode cX11_bestSet 18 = .ok (.iconst 1, 1) := by decide +kernel
theorem d_X11_bestSet_19 : decode cX11_bestSet 19 = .ok (.istore 10, 2) := by decide +kernel
theorem d_X11_bestSet_21 : decode cX11_bestSet 21 = .ok (.iload 10, 2) := by decide +kernel
theorem d_X11_bestSet_23 : decode cX11_bestSet 23 = .ok (.iconst 1, 1) := by decide +kernel
theorem d_X11_bestSet_24 : decode cX11_bestSet 24 = .ok (.iload_n 3, 1) := by decide +kernel
theorem d_X11_bestSet_25 : decode cX11_bestSet 25 = .ok (.ishl, 1) := by decide +kernel
theorem d_X11_bestSet_26 : decode cX11_bestSet 26 = .ok (.if_icmp .ge 196, 3) := by decide +kernel
theorem d_X11_bestSet_29 : decode cX11_bestSet 29 = .ok (.iload 10, 2) := by decide +kernel
theorem d_X11_bestSet_31 : decode cX11_bestSet 31 = .ok (.iload 10, 2) := by decide +kernel
theorem d_X11_bestSet_33 : decode cX11_bestSet 33 = .ok (.iconst 1, 1) := by decide +kernel
theorem d_X11_bestSet_34 : decode cX11_bestSet 34 = .ok (.isub, 1) := by decide +kernel
theorem d_X11_bestSet_35 : decode cX11_bestSet 35 = .ok (.ixor, 1) := by decide +kernel
theorem d_X11_bestSet_36 : decode cX11_bestSet 36 = .ok (.istore 11, 2) := by decide +kernel
theorem d_X11_bestSet_38 : decode cX11_bestSet 38 = .ok (.iconst 0, 1) := by decide +kernel
theorem d_X11_bestSet_39 : decode cX11_bestSet 39 = .ok (.istore 12, 2) := by decide +kernel
theorem d_X11_bestSet_41 : decode cX11_bestSet 41 = .ok (.iload 12, 2) := by decide +kernel
theorem d_X11_bestSet_43 : decode cX11_bestSet 43 = .ok (.iload_n 3, 1) := by decide +kernel
theorem d_X11_bestSet_44 : decode cX11_bestSet 44 = .ok (.if_icmp .ge 117, 3) := by decide +kernel
theorem d_X11_bestSet_47 : decode cX11_bestSet 47 = .ok (.iload 11, 2) := by decide +kernel
theorem d_X11_bestSet_49 : decode cX11_bestSet 49 = .ok (.iload 12, 2) := by decide +kernel
theorem d_X11_bestSet_51 : decode cX11_bestSet 51 = .ok (.ishr, 1) := by decide +kernel
theorem d_X11_bestSet_52 : decode cX11_bestSet 52 = .ok (.iconst 1, 1) := by decide +kernel
theorem d_X11_bestSet_53 : decode cX11_bestSet 53 = .ok (.iand, 1) := by decide +kernel
theorem d_X11_bestSet_54 : decode cX11_bestSet 54 = .ok (.iconst 1, 1) := by decide +kernel
theorem d_X11_bestSet_55 : decode cX11_bestSet 55 = .ok (.if_icmp .ne 106, 3) := by decide +kernel
theorem d_X11_bestSet_58 : decode cX11_bestSet 58 = .ok (.aload_n 0, 1) := by decide +kernel
theorem d_X11_bestSet_59 : decode cX11_bestSet 59 = .ok (.getfield 10, 3) := by decide +kernel
theorem d_X11_bestSet_62 : decode cX11_bestSet 62 = .ok (.getfield 126, 3) := by decide +kernel
theorem d_X11_bestSet_65 : decode cX11_bestSet 65 = .ok (.aload_n 0, 1) := by decide +kernel
theorem d_X11_bestSet_66 : decode cX11_bestSet 66 = .ok (.getfield 46, 3) := by decide +kernel
theorem d_X11_bestSet_69 : decode cX11_bestSet 69 = .ok (.iload 12, 2) := by decide +kernel
theorem d_X11_bestSet_71 : decode cX11_bestSet 71 = .ok (.iaload, 1) := by decide +kernel
theorem d_X11_bestSet_72 : decode cX11_bestSet 72 = .ok (.aaload, 1) := by decide +kernel
theorem d_X11_bestSet_73 : decode cX11_bestSet 73 = .ok (.astore 13, 2) := by decide +kernel
theorem d_X11_bestSet_75 : decode cX11_bestSet 75 = .ok (.iload 10, 2) := by decide +kernel
theorem d_X11_bestSet_77 : decode cX11_bestSet 77 = .ok (.iload 12, 2) := by decide +kernel
theorem d_X11_bestSet_79 : decode cX11_bestSet 79 = .ok (.ishr, 1) := by decide +kernel
theorem d_X11_bestSet_80 : decode cX11_bestSet 80 = .ok (.iconst 1, 1) := by decide +kernel
theorem d_X11_bestSet_81 : decode cX11_bestSet 81 = .ok (.iand, 1) := by decide +kernel
theorem d_X11_bestSet_82 : decode cX11_bestSet 82 = .ok (.iconst 1, 1) := by decide +kernel
theorem d_X11_bestSet_83 : decode cX11_bestSet 83 = .ok (.if_icmp .ne 7, 3) := by decide +kernel
theorem d_X11_bestSet_86 : decode cX11_bestSet 86 = .ok (.iconst 1, 1) := by decide +kernel
theorem d_X11_bestSet_87 : decode cX11_bestSet 87 = .ok (.goto 4, 3) := by decide +kernel
theorem d_X11_bestSet_90 : decode cX11_bestSet 90 = .ok (.iconst 0, 1) := by decide +kernel
theorem d_X11_bestSet_91 : decode cX11_bestSet 91 = .ok (.istore 14, 2) := by decide +kernel
theorem d_X11_bestSet_93 : decode cX11_bestSet 93 = .ok (.iload 7, 2) := by decide +kernel
theorem d_X11_bestSet_95 : decode cX11_bestSet 95 = .ok (.iload 14, 2) := by decide +kernel
theorem d_X11_bestSet_97 : decode cX11_bestSet 97 = .ok (.ifCond .eq 11, 3) := by decide +kernel
theorem d_X11_bestSet_100 : decode cX11_bestSet 100 = .ok (.aload 13, 2) := by decide +kernel
theorem d_X11_bestSet_102 : decode cX11_bestSet 102 = .ok (.getfield 170, 3) := by decide +kernel
theorem d_X11_bestSet_105 : decode cX11_bestSet 105 = .ok (.goto 9, 3) := by decide +kernel
theorem d_X11_bestSet_108 : decode cX11_bestSet 108 = .ok (.aload 13, 2) := by decide +kernel
theorem d_X11_bestSet_110 : decode cX11_bestSet 110 = .ok (.getfield 170, 3) := by decide +kernel
theorem d_X11_bestSet_113 : decode cX11_bestSet 113 = .ok (.ineg, 1) := by decide +kernel
theorem d_X11_bestSet_114 : decode cX11_bestSet 114 = .ok (.iadd, 1) := by decide +kernel
theorem d_X11_bestSet_115 : decode cX11_bestSet 115 = .ok (.istore 7, 2) := by decide +kernel
theorem d_X11_bestSet_117 : decode cX11_bestSet 117 = .ok (.iload 8, 2) := by decide +kernel
theorem d_X11_bestSet_119 : decode cX11_bestSet 119 = .ok (.iload 14, 2) := by decide +kernel
theorem d_X11_bestSet_121 : decode cX11_bestSet 121 = .ok (.ifCond .eq 11, 3) := by decide +kernel
theorem d_X11_bestSet_124 : decode cX11_bestSet 124 = .ok (.aload 13, 2) := by decide +kernel
theorem d_X11_bestSet_126 : decode cX11_bestSet 126 = .ok (.getfield 150, 3) := by decide +kernel
theorem d_X11_bestSet_129 : decode cX11_bestSet 129 = .ok (.goto 9, 3) := by decide +kernel
theorem d_X11_bestSet_132 : decode cX11_bestSet 132 = .ok (.aload 13, 2) := by decide +kernel
theorem d_X11_bestSet_134 : decode cX11_bestSet 134 = .ok (.getfield 150, 3) := by decide +kernel
theorem d_X11_bestSet_137 : decode cX11_bestSet 137 = .ok (.ineg, 1) := by decide +kernel
theorem d_X11_bestSet_138 : decode cX11_bestSet 138 = .ok (.iadd, 1) := by decide +kernel
theorem d_X11_bestSet_139 : decode cX11_bestSet 139 = .ok (.istore 8, 2) := by decide +kernel
theorem d_X11_bestSet_141 : decode cX11_bestSet 141 = .ok (.iload 9, 2) := by decide +kernel
theorem d_X11_bestSet_143 : decode cX11_bestSet 143 = .ok (.iconst 1, 1) := by decide +kernel
theorem d_X11_bestSet_144 : decode cX11_bestSet 144 = .ok (.aload_n 0, 1) := by decide +kernel
theorem d_X11_bestSet_145 : decode cX11_bestSet 145 = .ok (.getfield 46, 3) := by decide +kernel
theorem d_X11_bestSet_148 : decode cX11_bestSet 148 = .ok (.iload 12, 2) := by decide +kernel
theorem d_X11_bestSet_150 : decode cX11_bestSet 150 = .ok (.iaload, 1) := by decide +kernel
theorem d_X11_bestSet_151 : decode cX11_bestSet 151 = .ok (.ishl, 1) := by decide +kernel
theorem d_X11_bestSet_152 : decode cX11_bestSet 152 = .ok (.ixor, 1) := by decide +kernel
theorem d_X11_bestSet_153 : decode cX11_bestSet 153 = .ok (.istore 9, 2) := by decide +kernel
theorem d_X11_bestSet_155 : decode cX11_bestSet 155 = .ok (.iinc 12 1, 3) := by decide +kernel
theorem d_X11_bestSet_158 : decode cX11_bestSet 158 = .ok (.goto (-117), 3) := by decide +kernel
theorem d_X11_bestSet_161 : decode cX11_bestSet 161 = .ok (.iload 7, 2) := by decide +kernel
theorem d_X11_bestSet_163 : decode cX11_bestSet 163 = .ok (.iload 5, 2) := by decide +kernel
theorem d_X11_bestSet_165 : decode cX11_bestSet 165 = .ok (.if_icmp .gt 17, 3) := by decide +kernel
theorem d_X11_bestSet_168 : decode cX11_bestSet 168 = .ok (.iload 7, 2) := by decide +kernel
theorem d_X11_bestSet_170 : decode cX11_bestSet 170 = .ok (.iload 5, 2) := by decide +kernel
theorem d_X11_bestSet_172 : decode cX11_bestSet 172 = .ok (.if_icmp .ne 14, 3) := by decide +kernel
theorem d_X11_bestSet_175 : decode cX11_bestSet 175 = .ok (.iload 8, 2) := by decide +kernel
theorem d_X11_bestSet_177 : decode cX11_bestSet 177 = .ok (.iload 6, 2) := by decide +kernel
theorem d_X11_bestSet_179 : decode cX11_bestSet 179 = .ok (.if_icmp .ge 7, 3) := by decide +kernel
theorem d_X11_bestSet_182 : decode cX11_bestSet 182 = .ok (.iconst 1, 1) := by decide +kernel
theorem d_X11_bestSet_183 : decode cX11_bestSet 183 = .ok (.goto 4, 3) := by decide +kernel
theorem d_X11_bestSet_186 : decode cX11_bestSet 186 = .ok (.iconst 0, 1) := by decide +kernel
theorem d_X11_bestSet_187 : decode cX11_bestSet 187 = .ok (.istore 12, 2) := by decide +kernel
theorem d_X11_bestSet_189 : decode cX11_bestSet 189 = .ok (.iload 12, 2) := by decide +kernel
theorem d_X11_bestSet_191 : decode cX11_bestSet 191 = .ok (.ifCond .eq 25, 3) := by decide +kernel
theorem d_X11_bestSet_194 : decode cX11_bestSet 194 = .ok (.aload_n 1, 1) := by decide +kernel
theorem d_X11_bestSet_195 : decode cX11_bestSet 195 = .ok (.iload 8, 2) := by decide +kernel
theorem d_X11_bestSet_197 : decode cX11_bestSet 197 = .ok (.iload_n 2, 1) := by decide +kernel
theorem d_X11_bestSet_198 : decode cX11_bestSet 198 = .ok (.invokevirtual 369, 3) := by decide +kernel
theorem d_X11_bestSet_201 : decode cX11_bestSet 201 = .ok (.ifCond .eq 15, 3) := by decide +kernel
theorem d_X11_bestSet_204 : decode cX11_bestSet 204 = .ok (.iload 9, 2) := by decide +kernel
theorem d_X11_bestSet_206 : decode cX11_bestSet 206 = .ok (.istore 4, 2) := by decide +kernel
theorem d_X11_bestSet_208 : decode cX11_bestSet 208 = .ok (.iload 7, 2) := by decide +kernel
theorem d_X11_bestSet_210 : decode cX11_bestSet 210 = .ok (.istore 5, 2) := by decide +kernel
theorem d_X11_bestSet_212 : decode cX11_bestSet 212 = .ok (.iload 8, 2) := by decide +kernel
theorem d_X11_bestSet_214 : decode cX11_bestSet 214 = .ok (.istore 6, 2) := by decide +kernel
theorem d_X11_bestSet_216 : decode cX11_bestSet 216 = .ok (.iinc 10 1, 3) := by decide +kernel
theorem d_X11_bestSet_219 : decode cX11_bestSet 219 = .ok (.goto (-198), 3) := by decide +kernel
theorem d_X11_bestSet_222 : decode cX11_bestSet 222 = .ok (.iload 4, 2) := by decide +kernel
theorem d_X11_bestSet_224 : decode cX11_bestSet 224 = .ok (.ireturn, 1) := by decide +kernel
theorem d_X11_yieldingBy_0 : decode cX11_yieldingBy 0 = .ok (.iload_n 1, 1) := by decide +kernel
theorem d_X11_yieldingBy_1 : decode cX11_yieldingBy 1 = .ok (.ifCond .ne 25, 3) := by decide +kernel
theorem d_X11_yieldingBy_4 : decode cX11_yieldingBy 4 = .ok (.iload 4, 2) := by decide +kernel
theorem d_X11_yieldingBy_6 : decode cX11_yieldingBy 6 = .ok (.iload 5, 2) := by decide +kernel
theorem d_X11_yieldingBy_8 : decode cX11_yieldingBy 8 = .ok (.if_icmp .ne 7, 3) := by decide +kernel
theorem d_X11_yieldingBy_11 : decode cX11_yieldingBy 11 = .ok (.iconst (-1), 1) := by decide +kernel
theorem d_X11_yieldingBy_12 : decode cX11_yieldingBy 12 = .ok (.goto 13, 3) := by decide +kernel
theorem d_X11_yieldingBy_15 : decode cX11_yieldingBy 15 = .ok (.iload 4, 2) := by decide +kernel
theorem d_X11_yieldingBy_17 : decode cX11_yieldingBy 17 = .ok (.ifCond .eq 7, 3) := by decide +kernel
theorem d_X11_yieldingBy_20 : decode cX11_yieldingBy 20 = .ok (.iload_n 2, 1) := by decide +kernel
theorem d_X11_yieldingBy_21 : decode cX11_yieldingBy 21 = .ok (.goto 4, 3) := by decide +kernel
theorem d_X11_yieldingBy_24 : decode cX11_yieldingBy 24 = .ok (.iload_n 3, 1) := by decide +kernel
theorem d_X11_yieldingBy_25 : decode cX11_yieldingBy 25 = .ok (.ireturn, 1) := by decide +kernel
theorem d_X11_yieldingBy_26 : decode cX11_yieldingBy 26 = .ok (.iload_n 1, 1) := by decide +kernel
theorem d_X11_yieldingBy_27 : decode cX11_yieldingBy 27 = .ok (.iconst 1, 1) := by decide +kernel
theorem d_X11_yieldingBy_28 : decode cX11_yieldingBy 28 = .ok (.if_icmp .ne 55, 3) := by decide +kernel
theorem d_X11_yieldingBy_31 : decode cX11_yieldingBy 31 = .ok (.aload_n 0, 1) := by decide +kernel
theorem d_X11_yieldingBy_32 : decode cX11_yieldingBy 32 = .ok (.getfield 10, 3) := by decide +kernel
theorem d_X11_yieldingBy_35 : decode cX11_yieldingBy 35 = .ok (.getfield 113, 3) := by decide +kernel
theorem d_X11_yieldingBy_38 : decode cX11_yieldingBy 38 = .ok (.iload_n 2, 1) := by decide +kernel
theorem d_X11_yieldingBy_39 : decode cX11_yieldingBy 39 = .ok (.aaload, 1) := by decide +kernel
theorem d_X11_yieldingBy_40 : decode cX11_yieldingBy 40 = .ok (.invokevirtual 156, 3) := by decide +kernel
theorem d_X11_yieldingBy_43 : decode cX11_yieldingBy 43 = .ok (.istore 6, 2) := by decide +kernel
theorem d_X11_yieldingBy_45 : decode cX11_yieldingBy 45 = .ok (.aload_n 0, 1) := by decide +kernel
theorem d_X11_yieldingBy_46 : decode cX11_yieldingBy 46 = .ok (.getfield 10, 3) := by decide +kernel
theorem d_X11_yieldingBy_49 : decode cX11_yieldingBy 49 = .ok (.getfield 113, 3) := by decide +kernel
theorem d_X11_yieldingBy_52 : decode cX11_yieldingBy 52 = .ok (.iload_n 3, 1) := by decide +kernel
theorem d_X11_yieldingBy_53 : decode cX11_yieldingBy 53 = .ok (.aaload, 1) := by decide +kernel
theorem d_X11_yieldingBy_54 : decode cX11_yieldingBy 54 = .ok (.invokevirtual 156, 3) := by decide +kernel
theorem d_X11_yieldingBy_57 : decode cX11_yieldingBy 57 = .ok (.istore 7, 2) := by decide +kernel
theorem d_X11_yieldingBy_59 : decode cX11_yieldingBy 59 = .ok (.iload 6, 2) := by decide +kernel
theorem d_X11_yieldingBy_61 : decode cX11_yieldingBy 61 = .ok (.iload 7, 2) := by decide +kernel
theorem d_X11_yieldingBy_63 : decode cX11_yieldingBy 63 = .ok (.if_icmp .ne 7, 3) := by decide +kernel
theorem d_X11_yieldingBy_66 : decode cX11_yieldingBy 66 = .ok (.iconst (-1), 1) := by decide +kernel
theorem d_X11_yieldingBy_67 : decode cX11_yieldingBy 67 = .ok (.goto 15, 3) := by decide +kernel
theorem d_X11_yieldingBy_70 : decode cX11_yieldingBy 70 = .ok (.iload 6, 2) := by decide +kernel
theorem d_X11_yieldingBy_72 : decode cX11_yieldingBy 72 = .ok (.iload 7, 2) := by decide +kernel
theorem d_X11_yieldingBy_74 : decode cX11_yieldingBy 74 = .ok (.if_icmp .ge 7, 3) := by decide +kernel
theorem d_X11_yieldingBy_77 : decode cX11_yieldingBy 77 = .ok (.iload_n 2, 1) := by decide +kernel
theorem d_X11_yieldingBy_78 : decode cX11_yieldingBy 78 = .ok (.goto 4, 3) := by decide +kernel
theorem d_X11_yieldingBy_81 : decode cX11_yieldingBy 81 = .ok (.iload_n 3, 1) := by decide +kernel
theorem d_X11_yieldingBy_82 : decode cX11_yieldingBy 82 = .ok (.ireturn, 1) := by decide +kernel
theorem d_X11_yieldingBy_83 : decode cX11_yieldingBy 83 = .ok (.iload_n 2, 1) := by decide +kernel
theorem d_X11_yieldingBy_84 : decode cX11_yieldingBy 84 = .ok (.iload_n 3, 1) := by decide +kernel
theorem d_X11_yieldingBy_85 : decode cX11_yieldingBy 85 = .ok (.invokestatic 372, 3) := by decide +kernel
theorem d_X11_yieldingBy_88 : decode cX11_yieldingBy 88 = .ok (.ireturn, 1) := by decide +kernel
theorem d_X11_tellFromFloat_0 : decode cX11_tellFromFloat 0 = .ok (.iload_n 2, 1) := by decide +kernel
theorem d_X11_tellFromFloat_1 : decode cX11_tellFromFloat 1 = .ok (.sipush (-9999), 3) := by decide +kernel
theorem d_X11_tellFromFloat_4 : decode cX11_tellFromFloat 4 = .ok (.if_icmp .ne 4, 3) := by decide +kernel
theorem d_X11_tellFromFloat_7 : decode cX11_tellFromFloat 7 = .ok (.return_, 1) := by decide +kernel
theorem d_X11_tellFromFloat_8 : decode cX11_tellFromFloat 8 = .ok (.iload_n 2, 1) := by decide +kernel
theorem d_X11_tellFromFloat_9 : decode cX11_tellFromFloat 9 = .ok (.iconst 2, 1) := by decide +kernel
theorem d_X11_tellFromFloat_10 : decode cX11_tellFromFloat 10 = .ok (.idiv, 1) := by decide +kernel
theorem d_X11_tellFromFloat_11 : decode cX11_tellFromFloat 11 = .ok (.istore_n 3, 1) := by decide +kernel
theorem d_X11_tellFromFloat_12 : decode cX11_tellFromFloat 12 = .ok (.iload_n 3, 1) := by decide +kernel
theorem d_X11_tellFromFloat_13 : decode cX11_tellFromFloat 13 = .ok (.bipush (-20), 2) := by decide +kernel
theorem d_X11_tellFromFloat_15 : decode cX11_tellFromFloat 15 = .ok (.bipush 40, 2) := by decide +kernel
theorem d_X11_tellFromFloat_17 : decode cX11_tellFromFloat 17 = .ok (.invokestatic 51, 3) := by decide +kernel
theorem d_X11_tellFromFloat_20 : decode cX11_tellFromFloat 20 = .ok (.ifCond .eq 12, 3) := by decide +kernel
theorem d_X11_tellFromFloat_23 : decode cX11_tellFromFloat 23 = .ok (.aload_n 0, 1) := by decide +kernel
theorem d_X11_tellFromFloat_24 : decode cX11_tellFromFloat 24 = .ok (.getfield 10, 3) := by decide +kernel
theorem d_X11_tellFromFloat_27 : decode cX11_tellFromFloat 27 = .ok (.iload_n 1, 1) := by decide +kernel
theorem d_X11_tellFromFloat_28 : decode cX11_tellFromFloat 28 = .ok (.iload_n 3, 1) := by decide +kernel
theorem d_X11_tellFromFloat_29 : decode cX11_tellFromFloat 29 = .ok (.invokevirtual 79, 3) := by decide +kernel
theorem d_X11_tellFromFloat_32 : decode cX11_tellFromFloat 32 = .ok (.return_, 1) := by decide +kernel
theorem d_X11_forgeKind_0 : decode cX11_forgeKind 0 = .ok (.aload_n 0, 1) := by decide +kernel
theorem d_X11_forgeKind_1 : decode cX11_forgeKind 1 = .ok (.getfield 10, 3) := by decide +kernel
theorem d_X11_forgeKind_4 : decode cX11_forgeKind 4 = .ok (.iload_n 2, 1) := by decide +kernel
theorem d_X11_forgeKind_5 : decode cX11_forgeKind 5 = .ok (.invokevirtual 86, 3) := by decide +kernel
theorem d_X11_forgeKind_8 : decode cX11_forgeKind 8 = .ok (.ifCond .ne 10, 3) := by decide +kernel
theorem d_X11_forgeKind_11 : decode cX11_forgeKind 11 = .ok (.aload_n 0, 1) := by decide +kernel
theorem d_X11_forgeKind_12 : decode cX11_forgeKind 12 = .ok (.bipush 10, 2) := by decide +kernel
theorem d_X11_forgeKind_14 : decode cX11_forgeKind 14 = .ok (.invokevirtual 55, 3) := by decide +kernel
theorem d_X11_forgeKind_17 : decode cX11_forgeKind 17 = .ok (.ireturn, 1) := by decide +kernel
theorem d_X11_forgeKind_18 : decode cX11_forgeKind 18 = .ok (.aload_n 0, 1) := by decide +kernel
theorem d_X11_forgeKind_19 : decode cX11_forgeKind 19 = .ok (.getfield 10, 3) := by decide +kernel
theorem d_X11_forgeKind_22 : decode cX11_forgeKind 22 = .ok (.getfield 62, 3) := by decide +kernel
theorem d_X11_forgeKind_25 : decode cX11_forgeKind 25 = .ok (.iload_n 2, 1) := by decide +kernel
theorem d_X11_forgeKind_26 : decode cX11_forgeKind 26 = .ok (.aaload, 1) := by decide +kernel
theorem d_X11_forgeKind_27 : decode cX11_forgeKind 27 = .ok (.getfield 89, 3) := by decide +kernel
theorem d_X11_forgeKind_30 : decode cX11_forgeKind 30 = .ok (.istore_n 3, 1) := by decide +kernel
theorem d_X11_forgeKind_31 : decode cX11_forgeKind 31 = .ok (.iload_n 3, 1) := by decide +kernel
theorem d_X11_forgeKind_32 : decode cX11_forgeKind 32 = .ok (.iload_n 1, 1) := by decide +kernel
theorem d_X11_forgeKind_33 : decode cX11_forgeKind 33 = .ok (.invokestatic 92, 3) := by decide +kernel
theorem d_X11_forgeKind_36 : decode cX11_forgeKind 36 = .ok (.ifCond .eq 11, 3) := by decide +kernel
theorem d_X11_forgeKind_39 : decode cX11_forgeKind 39 = .ok (.aload_n 0, 1) := by decide +kernel
theorem d_X11_forgeKind_40 : decode cX11_forgeKind 40 = .ok (.iload_n 3, 1) := by decide +kernel
theorem d_X11_forgeKind_41 : decode cX11_forgeKind 41 = .ok (.invokevirtual 72, 3) := by decide +kernel
theorem d_X11_forgeKind_44 : decode cX11_forgeKind 44 = .ok (.goto 9, 3) := by decide +kernel
theorem d_X11_forgeKind_47 : decode cX11_forgeKind 47 = .ok (.aload_n 0, 1) := by decide +kernel
theorem d_X11_forgeKind_48 : decode cX11_forgeKind 48 = .ok (.bipush 11, 2) := by decide +kernel
theorem d_X11_forgeKind_50 : decode cX11_forgeKind 50 = .ok (.invokevirtual 55, 3) := by decide +kernel
theorem d_X11_forgeKind_53 : decode cX11_forgeKind 53 = .ok (.ireturn, 1) := by decide +kernel
theorem d_X11_forgeShort_0 : decode cX11_forgeShort 0 = .ok (.aload_n 1, 1) := by decide +kernel
theorem d_X11_forgeShort_1 : decode cX11_forgeShort 1 = .ok (.iconst 1, 1) := by decide +kernel
theorem d_X11_forgeShort_2 : decode cX11_forgeShort 2 = .ok (.invokevirtual 339, 3) := by decide +kernel
theorem d_X11_forgeShort_5 : decode cX11_forgeShort 5 = .ok (.istore_n 3, 1) := by decide +kernel
theorem d_X11_forgeShort_6 : decode cX11_forgeShort 6 = .ok (.iload_n 3, 1) := by decide +kernel
theorem d_X11_forgeShort_7 : decode cX11_forgeShort 7 = .ok (.ifCond .eq 9, 3) := by decide +kernel
theorem d_X11_forgeShort_10 : decode cX11_forgeShort 10 = .ok (.aload_n 0, 1) := by decide +kernel
theorem d_X11_forgeShort_11 : decode cX11_forgeShort 11 = .ok (.iload_n 3, 1) := by decide +kernel
theorem d_X11_forgeShort_12 : decode cX11_forgeShort 12 = .ok (.invokevirtual 55, 3) := by decide +kernel
theorem d_X11_forgeShort_15 : decode cX11_forgeShort 15 = .ok (.ireturn, 1) := by decide +kernel
theorem d_X11_forgeShort_16 : decode cX11_forgeShort 16 = .ok (.aload_n 1, 1) := by decide +kernel
theorem d_X11_forgeShort_17 : decode cX11_forgeShort 17 = .ok (.iload_n 2, 1) := by decide +kernel
theorem d_X11_forgeShort_18 : decode cX11_forgeShort 18 = .ok (.invokevirtual 333, 3) := by decide +kernel
theorem d_X11_forgeShort_21 : decode cX11_forgeShort 21 = .ok (.ifCond .eq 16, 3) := by decide +kernel
theorem d_X11_forgeShort_24 : decode cX11_forgeShort 24 = .ok (.aload_n 0, 1) := by decide +kernel
theorem d_X11_forgeShort_25 : decode cX11_forgeShort 25 = .ok (.aload_n 1, 1) := by decide +kernel
theorem d_X11_forgeShort_26 : decode cX11_forgeShort 26 = .ok (.getfield 342, 3) := by decide +kernel
theorem d_X11_forgeShort_29 : decode cX11_forgeShort 29 = .ok (.iload_n 2, 1) := by decide +kernel
theorem d_X11_forgeShort_30 : decode cX11_forgeShort 30 = .ok (.iaload, 1) := by decide +kernel
theorem d_X11_forgeShort_31 : decode cX11_forgeShort 31 = .ok (.invokevirtual 72, 3) := by decide +kernel
theorem d_X11_forgeShort_34 : decode cX11_forgeShort 34 = .ok (.goto 9, 3) := by decide +kernel
theorem d_X11_forgeShort_37 : decode cX11_forgeShort 37 = .ok (.aload_n 0, 1) := by decide +kernel
theorem d_X11_forgeShort_38 : decode cX11_forgeShort 38 = .ok (.bipush 12, 2) := by decide +kernel
theorem d_X11_forgeShort_40 : decode cX11_forgeShort 40 = .ok (.invokevirtual 55, 3) := by decide +kernel
theorem d_X11_forgeShort_43 : decode cX11_forgeShort 43 = .ok (.ireturn, 1) := by decide +kernel
theorem d_X11_forgeCopy_0 : decode cX11_forgeCopy 0 = .ok (.aload_n 1, 1) := by decide +kernel
theorem d_X11_forgeCopy_1 : decode cX11_forgeCopy 1 = .ok (.iconst 0, 1) := by decide +kernel
theorem d_X11_forgeCopy_2 : decode cX11_forgeCopy 2 = .ok (.invokevirtual 339, 3) := by decide +kernel
theorem d_X11_forgeCopy_5 : decode cX11_forgeCopy 5 = .ok (.istore_n 3, 1) := by decide +kernel
theorem d_X11_forgeCopy_6 : decode cX11_forgeCopy 6 = .ok (.iload_n 3, 1) := by decide +kernel
theorem d_X11_forgeCopy_7 : decode cX11_forgeCopy 7 = .ok (.ifCond .eq 9, 3) := by decide +kernel
theorem d_X11_forgeCopy_10 : decode cX11_forgeCopy 10 = .ok (.aload_n 0, 1) := by decide +kernel
theorem d_X11_forgeCopy_11 : decode cX11_forgeCopy 11 = .ok (.iload_n 3, 1) := by decide +kernel
theorem d_X11_forgeCopy_12 : decode cX11_forgeCopy 12 = .ok (.invokevirtual 55, 3) := by decide +kernel
theorem d_X11_forgeCopy_15 : decode cX11_forgeCopy 15 = .ok (.ireturn, 1) := by decide +kernel
theorem d_X11_forgeCopy_16 : decode cX11_forgeCopy 16 = .ok (.iload_n 2, 1) := by decide +kernel
theorem d_X11_forgeCopy_17 : decode cX11_forgeCopy 17 = .ok (.ifCond .lt 21, 3) := by decide +kernel
theorem d_X11_forgeCopy_20 : decode cX11_forgeCopy 20 = .ok (.iconst 1, 1) := by decide +kernel
theorem d_X11_forgeCopy_21 : decode cX11_forgeCopy 21 = .ok (.iload_n 2, 1) := by decide +kernel
theorem d_X11_forgeCopy_22 : decode cX11_forgeCopy 22 = .ok (.iadd, 1) := by decide +kernel
theorem d_X11_forgeCopy_23 : decode cX11_forgeCopy 23 = .ok (.aload_n 1, 1) := by decide +kernel
theorem d_X11_forgeCopy_24 : decode cX11_forgeCopy 24 = .ok (.getfield 375, 3) := by decide +kernel
theorem d_X11_forgeCopy_27 : decode cX11_forgeCopy 27 = .ok (.if_icmp .gt 11, 3) := by decide +kernel
theorem d_X11_forgeCopy_30 : decode cX11_forgeCopy 30 = .ok (.iload_n 2, 1) := by decide +kernel
theorem d_X11_forgeCopy_31 : decode cX11_forgeCopy 31 = .ok (.iload_n 2, 1) := by decide +kernel
theorem d_X11_forgeCopy_32 : decode cX11_forgeCopy 32 = .ok (.iadd, 1) := by decide +kernel
theorem d_X11_forgeCopy_33 : decode cX11_forgeCopy 33 = .ok (.bipush 6, 2) := by decide +kernel
theorem d_X11_forgeCopy_35 : decode cX11_forgeCopy 35 = .ok (.if_icmp .le 10, 3) := by decide +kernel
theorem d_X11_forgeCopy_38 : decode cX11_forgeCopy 38 = .ok (.aload_n 0, 1) := by decide +kernel
theorem d_X11_forgeCopy_39 : decode cX11_forgeCopy 39 = .ok (.bipush 12, 2) := by decide +kernel
theorem d_X11_forgeCopy_41 : decode cX11_forgeCopy 41 = .ok (.invokevirtual 55, 3) := by decide +kernel
theorem d_X11_forgeCopy_44 : decode cX11_forgeCopy 44 = .ok (.ireturn, 1) := by decide +kernel
theorem d_X11_forgeCopy_45 : decode cX11_forgeCopy 45 = .ok (.iconst 0, 1) := by decide +kernel
theorem d_X11_forgeCopy_46 : decode cX11_forgeCopy 46 = .ok (.istore 4, 2) := by decide +kernel
theorem d_X11_forgeCopy_48 : decode cX11_forgeCopy 48 = .ok (.iconst 1, 1) := by decide +kernel
theorem d_X11_forgeCopy_49 : decode cX11_forgeCopy 49 = .ok (.istore 5, 2) := by decide +kernel
theorem d_X11_forgeCopy_51 : decode cX11_forgeCopy 51 = .ok (.iload 5, 2) := by decide +kernel
theorem d_X11_forgeCopy_53 : decode cX11_forgeCopy 53 = .ok (.iload_n 2, 1) := by decide +kernel
theorem d_X11_forgeCopy_54 : decode cX11_forgeCopy 54 = .ok (.if_icmp .gt 21, 3) := by decide +kernel
theorem d_X11_forgeCopy_57 : decode cX11_forgeCopy 57 = .ok (.iload 4, 2) := by decide +kernel
theorem d_X11_forgeCopy_59 : decode cX11_forgeCopy 59 = .ok (.aload_n 1, 1) := by decide +kernel
theorem d_X11_forgeCopy_60 : decode cX11_forgeCopy 60 = .ok (.getfield 342, 3) := by decide +kernel
theorem d_X11_forgeCopy_63 : decode cX11_forgeCopy 63 = .ok (.iload 5, 2) := by decide +kernel
theorem d_X11_forgeCopy_65 : decode cX11_forgeCopy 65 = .ok (.iaload, 1) := by decide +kernel
theorem d_X11_forgeCopy_66 : decode cX11_forgeCopy 66 = .ok (.iadd, 1) := by decide +kernel
theorem d_X11_forgeCopy_67 : decode cX11_forgeCopy 67 = .ok (.istore 4, 2) := by decide +kernel
theorem d_X11_forgeCopy_69 : decode cX11_forgeCopy 69 = .ok (.iinc 5 1, 3) := by decide +kernel
theorem d_X11_forgeCopy_72 : decode cX11_forgeCopy 72 = .ok (.goto (-21), 3) := by decide +kernel
theorem d_X11_forgeCopy_75 : decode cX11_forgeCopy 75 = .ok (.aload_n 0, 1) := by decide +kernel
theorem d_X11_forgeCopy_76 : decode cX11_forgeCopy 76 = .ok (.iload 4, 2) := by decide +kernel
theorem d_X11_forgeCopy_78 : decode cX11_forgeCopy 78 = .ok (.invokevirtual 72, 3) := by decide +kernel
theorem d_X11_forgeCopy_81 : decode cX11_forgeCopy 81 = .ok (.ireturn, 1) := by decide +kernel
theorem d_X11_forgeRow_0 : decode cX11_forgeRow 0 = .ok (.aload_n 0, 1) := by decide +kernel
theorem d_X11_forgeRow_1 : decode cX11_forgeRow 1 = .ok (.getfield 10, 3) := by decide +kernel
theorem d_X11_forgeRow_4 : decode cX11_forgeRow 4 = .ok (.iload_n 1, 1) := by decide +kernel
theorem d_X11_forgeRow_5 : decode cX11_forgeRow 5 = .ok (.invokevirtual 86, 3) := by decide +kernel
theorem d_X11_forgeRow_8 : decode cX11_forgeRow 8 = .ok (.ifCond .ne 9, 3) := by decide +kernel
theorem d_X11_forgeRow_11 : decode cX11_forgeRow 11 = .ok (.aload_n 0, 1) := by decide +kernel
theorem d_X11_forgeRow_12 : decode cX11_forgeRow 12 = .ok (.iconst 0, 1) := by decide +kernel
theorem d_X11_forgeRow_13 : decode cX11_forgeRow 13 = .ok (.invokevirtual 72, 3) := by decide +kernel
theorem d_X11_forgeRow_16 : decode cX11_forgeRow 16 = .ok (.ireturn, 1) := by decide +kernel
theorem d_X11_forgeRow_17 : decode cX11_forgeRow 17 = .ok (.aload_n 0, 1) := by decide +kernel
theorem d_X11_forgeRow_18 : decode cX11_forgeRow 18 = .ok (.getfield 10, 3) := by decide +kernel
theorem d_X11_forgeRow_21 : decode cX11_forgeRow 21 = .ok (.getfield 62, 3) := by decide +kernel
theorem d_X11_forgeRow_24 : decode cX11_forgeRow 24 = .ok (.iload_n 1, 1) := by decide +kernel
theorem d_X11_forgeRow_25 : decode cX11_forgeRow 25 = .ok (.aaload, 1) := by decide +kernel
theorem d_X11_forgeRow_26 : decode cX11_forgeRow 26 = .ok (.getfield 89, 3) := by decide +kernel
theorem d_X11_forgeRow_29 : decode cX11_forgeRow 29 = .ok (.istore_n 2, 1) := by decide +kernel
theorem d_X11_forgeRow_30 : decode cX11_forgeRow 30 = .ok (.iload_n 2, 1) := by decide +kernel
theorem d_X11_forgeRow_31 : decode cX11_forgeRow 31 = .ok (.iconst 1, 1) := by decide +kernel
theorem d_X11_forgeRow_32 : decode cX11_forgeRow 32 = .ok (.invokestatic 92, 3) := by decide +kernel
theorem d_X11_forgeRow_35 : decode cX11_forgeRow 35 = .ok (.ifCond .eq 11, 3) := by decide +kernel
theorem d_X11_forgeRow_38 : decode cX11_forgeRow 38 = .ok (.aload_n 0, 1) := by decide +kernel
theorem d_X11_forgeRow_39 : decode cX11_forgeRow 39 = .ok (.iload_n 2, 1) := by decide +kernel
theorem d_X11_forgeRow_40 : decode cX11_forgeRow 40 = .ok (.invokevirtual 72, 3) := by decide +kernel
theorem d_X11_forgeRow_43 : decode cX11_forgeRow 43 = .ok (.goto 9, 3) := by decide +kernel
theorem d_X11_forgeRow_46 : decode cX11_forgeRow 46 = .ok (.aload_n 0, 1) := by decide +kernel
theorem d_X11_forgeRow_47 : decode cX11_forgeRow 47 = .ok (.bipush 14, 2) := by decide +kernel
theorem d_X11_forgeRow_49 : decode cX11_forgeRow 49 = .ok (.invokevirtual 55, 3) := by decide +kernel
theorem d_X11_forgeRow_52 : decode cX11_forgeRow 52 = .ok (.ireturn, 1) := by decide +kernel
end
section
theorem d_X12_init_0 : decode cX12_init 0 = .ok (.aload_n 0, 1) := by decide +kernel
theorem d_X12_init_1 : decode cX12_init 1 = .ok (.invokespecial 1, 3) := by decide +kernel
theorem d_X12_init_4 : decode cX12_init 4 = .ok (.aload_n 0, 1) := by decide +kernel
theorem d_X12_init_5 : decode cX12_init 5 = .ok (.bipush 10, 2) := by decide +kernel
theorem d_X12_init_7 : decode cX12_init 7 = .ok (.newarray .int, 2) := by decide +kernel
theorem d_X12_init_9 : decode cX12_init 9 = .ok (.putfield 7, 3) := by decide +kernel
theorem d_X12_init_12 : decode cX12_init 12 = .ok (.aload_n 0, 1) := by decide +kernel
theorem d_X12_init_13 : decode cX12_init 13 = .ok (.bipush 10, 2) := by decide +kernel
theorem d_X12_init_15 : decode cX12_init 15 = .ok (.newarray .int, 2) := by decide +kernel
theorem d_X12_init_17 : decode cX12_init 17 = .ok (.putfield 13, 3) := by decide +kernel
theorem d_X12_init_20 : decode cX12_init 20 = .ok (.aload_n 0, 1) := by decide +kernel
theorem d_X12_init_21 : decode cX12_init 21 = .ok (.bipush 10, 2) := by decide +kernel
theorem d_X12_init_23 : decode cX12_init 23 = .ok (.newarray .int, 2) := by decide +kernel
theorem d_X12_init_25 : decode cX12_init 25 = .ok (.putfield 16, 3) := by decide +kernel
theorem d_X12_init_28 : decode cX12_init 28 = .ok (.aload_n 0, 1) := by decide +kernel
theorem d_X12_init_29 : decode cX12_init 29 = .ok (.bipush 10, 2) := by decide +kernel
theorem d_X12_init_31 : decode cX12_init 31 = .ok (.newarray .boolean, 2) := by decide +kernel
theorem d_X12_init_33 : decode cX12_init 33 = .ok (.putfield 19, 3) := by decide +kernel
theorem d_X12_init_36 : decode cX12_init 36 = .ok (.aload_n 0, 1) := by decide +kernel
theorem d_X12_init_37 : decode cX12_init 37 = .ok (.sipush 1000, 3) := by decide +kernel
theorem d_X12_init_40 : decode cX12_init 40 = .ok (.newarray .int, 2) := by decide +kernel
theorem d_X12_init_42 : decode cX12_init 42 = .ok (.putfield 23, 3) := by decide +kernel
theorem d_X12_init_45 : decode cX12_init 45 = .ok (.aload_n 0, 1) := by decide +kernel
theorem d_X12_init_46 : decode cX12_init 46 = .ok (.sipush 1000, 3) := by decide +kernel
theorem d_X12_init_49 : decode cX12_init 49 = .ok (.newarray .boolean, 2) := by decide +kernel
theorem d_X12_init_51 : decode cX12_init 51 = .ok (.putfield 26, 3) := by decide +kernel
theorem d_X12_init_54 : decode cX12_init 54 = .ok (.aload_n 0, 1) := by decide +kernel
theorem d_X12_init_55 : decode cX12_init 55 = .ok (.bipush 100, 2) := by decide +kernel
theorem d_X12_init_57 : decode cX12_init 57 = .ok (.newarray .int, 2) := by decide +kernel
theorem d_X12_init_59 : decode cX12_init 59 = .ok (.putfield 29, 3) := by decide +kernel
theorem d_X12_init_62 : decode cX12_init 62 = .ok (.aload_n 0, 1) := by decide +kernel
theorem d_X12_init_63 : decode cX12_init 63 = .ok (.bipush 100, 2) := by decide +kernel
theorem d_X12_init_65 : decode cX12_init 65 = .ok (.newarray .boolean, 2) := by decide +kernel
theorem d_X12_init_67 : decode cX12_init 67 = .ok (.putfield 32, 3) := by decide +kernel
theorem d_X12_init_70 : decode cX12_init 70 = .ok (.aload_n 0, 1) := by decide +kernel
theorem d_X12_init_71 : decode cX12_init 71 = .ok (.bipush 100, 2) := by decide +kernel
theorem d_X12_init_73 : decode cX12_init 73 = .ok (.newarray .boolean, 2) := by decide +kernel
theorem d_X12_init_75 : decode cX12_init 75 = .ok (.putfield 35, 3) := by decide +kernel
theorem d_X12_init_78 : decode cX12_init 78 = .ok (.aload_n 0, 1) := by decide +kernel
theorem d_X12_init_79 : decode cX12_init 79 = .ok (.iconst 5, 1) := by decide +kernel
theorem d_X12_init_80 : decode cX12_init 80 = .ok (.newarray .int, 2) := by decide +kernel
theorem d_X12_init_82 : decode cX12_init 82 = .ok (.putfield 38, 3) := by decide +kernel
theorem d_X12_init_85 : decode cX12_init 85 = .ok (.aload_n 0, 1) := by decide +kernel
theorem d_X12_init_86 : decode cX12_init 86 = .ok (.iconst 5, 1) := by decide +kernel
theorem d_X12_init_87 : decode cX12_init 87 = .ok (.newarray .int, 2) := by decide +kernel
theorem d_X12_init_89 : decode cX12_init 89 = .ok (.putfield 41, 3) := by decide +kernel
theorem d_X12_init_92 : decode cX12_init 92 = .ok (.aload_n 0, 1) := by decide +kernel
theorem d_X12_init_93 : decode cX12_init 93 = .ok (.iconst 5, 1) := by decide +kernel
theorem d_X12_init_94 : decode cX12_init 94 = .ok (.newarray .int, 2) := by decide +kernel
theorem d_X12_init_96 : decode cX12_init 96 = .ok (.putfield 44, 3) := by decide +kernel
theorem d_X12_init_99 : decode cX12_init 99 = .ok (.aload_n 0, 1) := by decide +kernel
theorem d_X12_init_100 : decode cX12_init 100 = .ok (.iconst 5, 1) := by decide +kernel
theorem d_X12_init_101 : decode cX12_init 101 = .ok (.newarray .int, 2) := by decide +kernel
theorem d_X12_init_103 : decode cX12_init 103 = .ok (.putfield 47, 3) := by decide +kernel
theorem d_X12_init_106 : decode cX12_init 106 = .ok (.aload_n 0, 1) := by decide +kernel
theorem d_X12_init_107 : decode cX12_init 107 = .ok (.iconst 5, 1) := by decide +kernel
theorem d_X12_init_108 : decode cX12_init 108 = .ok (.newarray .int, 2) := by decide +kernel
theorem d_X12_init_110 : decode cX12_init 110 = .ok (.putfield 50, 3) := by decide +kernel
theorem d_X12_init_113 : decode cX12_init 113 = .ok (.aload_n 0, 1) := by decide +kernel
theorem d_X12_init_114 : decode cX12_init 114 = .ok (.iconst 5, 1) := by decide +kernel
theorem d_X12_init_115 : decode cX12_init 115 = .ok (.newarray .int, 2) := by decide +kernel
theorem d_X12_init_117 : decode cX12_init 117 = .ok (.putfield 53, 3) := by decide +kernel
theorem d_X12_init_120 : decode cX12_init 120 = .ok (.aload_n 0, 1) := by decide +kernel
theorem d_X12_init_121 : decode cX12_init 121 = .ok (.iconst 5, 1) := by decide +kernel
theorem d_X12_init_122 : decode cX12_init 122 = .ok (.newarray .int, 2) := by decide +kernel
theorem d_X12_init_124 : decode cX12_init 124 = .ok (.putfield 56, 3) := by decide +kernel
theorem d_X12_init_127 : decode cX12_init 127 = .ok (.aload_n 0, 1) := by decide +kernel
theorem d_X12_init_128 : decode cX12_init 128 = .ok (.iconst 5, 1) := by decide +kernel
theorem d_X12_init_129 : decode cX12_init 129 = .ok (.newarray .int, 2) := by decide +kernel
theorem d_X12_init_131 : decode cX12_init 131 = .ok (.putfield 59, 3) := by decide +kernel
theorem d_X12_init_134 : decode cX12_init 134 = .ok (.aload_n 0, 1) := by decide +kernel
theorem d_X12_init_135 : decode cX12_init 135 = .ok (.sipush 160, 3) := by decide +kernel
theorem d_X12_init_138 : decode cX12_init 138 = .ok (.newarray .int, 2) := by decide +kernel
theorem d_X12_init_140 : decode cX12_init 140 = .ok (.putfield 62, 3) := by decide +kernel
theorem d_X12_init_143 : decode cX12_init 143 = .ok (.aload_n 0, 1) := by decide +kernel
theorem d_X12_init_144 : decode cX12_init 144 = .ok (.sipush 160, 3) := by decide +kernel
theorem d_X12_init_147 : decode cX12_init 147 = .ok (.newarray .int, 2) := by decide +kernel
theorem d_X12_init_149 : decode cX12_init 149 = .ok (.putfield 65, 3) := by decide +kernel
theorem d_X12_init_152 : decode cX12_init 152 = .ok (.aload_n 0, 1) := by decide +kernel
theorem d_X12_init_153 : decode cX12_init 153 = .ok (.bipush 11, 2) := by decide +kernel
theorem d_X12_init_155 : decode cX12_init 155 = .ok (.newarray .int, 2) := by decide +kernel
theorem d_X12_init_157 : decode cX12_init 157 = .ok (.putfield 68, 3) := by decide +kernel
theorem d_X12_init_160 : decode cX12_init 160 = .ok (.aload_n 0, 1) := by decide +kernel
theorem d_X12_init_161 : decode cX12_init 161 = .ok (.bipush 12, 2) := by decide +kernel
theorem d_X12_init_163 : decode cX12_init 163 = .ok (.newarray .int, 2) := by decide +kernel
theorem d_X12_init_165 : decode cX12_init 165 = .ok (.putfield 71, 3) := by decide +kernel
theorem d_X12_init_168 : decode cX12_init 168 = .ok (.aload_n 0, 1) := by decide +kernel
theorem d_X12_init_169 : decode cX12_init 169 = .ok (.bipush 12, 2) := by decide +kernel
theorem d_X12_init_171 : decode cX12_init 171 = .ok (.newarray .int, 2) := by decide +kernel
theorem d_X12_init_173 : decode cX12_init 173 = .ok (.putfield 74, 3) := by decide +kernel
theorem d_X12_init_176 : decode cX12_init 176 = .ok (.aload_n 0, 1) := by decide +kernel
theorem d_X12_init_177 : decode cX12_init 177 = .ok (.bipush 12, 2) := by decide +kernel
theorem d_X12_init_179 : decode cX12_init 179 = .ok (.newarray .int, 2) := by decide +kernel
theorem d_X12_init_181 : decode cX12_init 181 = .ok (.putfield 77, 3) := by decide +kernel
theorem d_X12_init_184 : decode cX12_init 184 = .ok (.aload_n 0, 1) := by decide +kernel
theorem d_X12_init_185 : decode cX12_init 185 = .ok (.bipush 12, 2) := by decide +kernel
theorem d_X12_init_187 : decode cX12_init 187 = .ok (.newarray .int, 2) := by decide +kernel
theorem d_X12_init_189 : decode cX12_init 189 = .ok (.putfield 80, 3) := by decide +kernel
theorem d_X12_init_192 : decode cX12_init 192 = .ok (.aload_n 0, 1) := by decide +kernel
theorem d_X12_init_193 : decode cX12_init 193 = .ok (.bipush 12, 2) := by decide +kernel
theorem d_X12_init_195 : decode cX12_init 195 = .ok (.newarray .int, 2) := by decide +kernel
theorem d_X12_init_197 : decode cX12_init 197 = .ok (.putfield 83, 3) := by decide +kernel
theorem d_X12_init_200 : decode cX12_init 200 = .ok (.aload_n 0, 1) := by decide +kernel
theorem d_X12_init_201 : decode cX12_init 201 = .ok (.bipush 6, 2) := by decide +kernel
theorem d_X12_init_203 : decode cX12_init 203 = .ok (.newarray .int, 2) := by decide +kernel
theorem d_X12_init_205 : decode cX12_init 205 = .ok (.putfield 86, 3) := by decide +kernel
theorem d_X12_init_208 : decode cX12_init 208 = .ok (.aload_n 0, 1) := by decide +kernel
theorem d_X12_init_209 : decode cX12_init 209 = .ok (.bipush 6, 2) := by decide +kernel
theorem d_X12_init_211 : decode cX12_init 211 = .ok (.newarray .int, 2) := by decide +kernel
theorem d_X12_init_213 : decode cX12_init 213 = .ok (.putfield 89, 3) := by decide +kernel
theorem d_X12_init_216 : decode cX12_init 216 = .ok (.aload_n 0, 1) := by decide +kernel
theorem d_X12_init_217 : decode cX12_init 217 = .ok (.bipush 6, 2) := by decide +kernel
theorem d_X12_init_219 : decode cX12_init 219 = .ok (.newarray .int, 2) := by decide +kernel
theorem d_X12_init_221 : decode cX12_init 221 = .ok (.putfield 92, 3) := by decide +kernel
theorem d_X12_init_224 : decode cX12_init 224 = .ok (.aload_n 0, 1) := by decide +kernel
theorem d_X12_init_225 : decode cX12_init 225 = .ok (.bipush 8, 2) := by decide +kernel
theorem d_X12_init_227 : decode cX12_init 227 = .ok (.newarray .int, 2) := by decide +kernel
theorem d_X12_init_229 : decode cX12_init 229 = .ok (.putfield 95, 3) := by decide +kernel
theorem d_X12_init_232 : decode cX12_init 232 = .ok (.aload_n 0, 1) := by decide +kernel
theorem d_X12_init_233 : decode cX12_init 233 = .ok (.bipush 8, 2) := by decide +kernel
theorem d_X12_init_235 : decode cX12_init 235 = .ok (.newarray .int, 2) := by decide +kernel
theorem d_X12_init_237 : decode cX12_init 237 = .ok (.putfield 98, 3) := by decide +kernel
theorem d_X12_init_240 : decode cX12_init 240 = .ok (.aload_n 0, 1) := by decide +kernel
theorem d_X12_init_241 : decode cX12_init 241 = .ok (.bipush 8, 2) := by decide +kernel
theorem d_X12_init_243 : decode cX12_init 243 = .ok (.newarray .int, 2) := by decide +kernel
theorem d_X12_init_245 : decode cX12_init 245 = .ok (.putfield 101, 3) := by decide +kernel
theorem d_X12_init_248 : decode cX12_init 248 = .ok (.aload_n 0, 1) := by decide +kernel
theorem d_X12_init_249 : decode cX12_init 249 = .ok (.bipush 8, 2) := by decide +kernel
theorem d_X12_init_251 : decode cX12_init 251 = .ok (.newarray .int, 2) := by decide +kernel
theorem d_X12_init_253 : decode cX12_init 253 = .ok (.putfield 104, 3) := by decide +kernel
theorem d_X12_init_256 : decode cX12_init 256 = .ok (.aload_n 0, 1) := by decide +kernel
theorem d_X12_init_257 : decode cX12_init 257 = .ok (.sipush 1100, 3) := by decide +kernel
theorem d_X12_init_260 : decode cX12_init 260 = .ok (.newarray .int, 2) := by decide +kernel
theorem d_X12_init_262 : decode cX12_init 262 = .ok (.putfield 107, 3) := by decide +kernel
theorem d_X12_init_265 : decode cX12_init 265 = .ok (.aload_n 0, 1) := by decide +kernel
theorem d_X12_init_266 : decode cX12_init 266 = .ok (.sipush 1100, 3) := by decide +kernel
theorem d_X12_init_269 : decode cX12_init 269 = .ok (.newarray .int, 2) := by decide +kernel
theorem d_X12_init_271 : decode cX12_init 271 = .ok (.putfield 110, 3) := by decide +kernel
theorem d_X12_init_274 : decode cX12_init 274 = .ok (.aload_n 0, 1) := by decide +kernel
theorem d_X12_init_275 : decode cX12_init 275 = .ok (.bipush 11, 2) := by decide +kernel
theorem d_X12_init_277 : decode cX12_init 277 = .ok (.newarray .int, 2) := by decide +kernel
theorem d_X12_init_279 : decode cX12_init 279 = .ok (.putfield 113, 3) := by decide +kernel
theorem d_X12_init_282 : decode cX12_init 282 = .ok (.aload_n 0, 1) := by decide +kernel
theorem d_X12_init_283 : decode cX12_init 283 = .ok (.bipush 7, 2) := by decide +kernel
theorem d_X12_init_285 : decode cX12_init 285 = .ok (.newarray .int, 2) := by decide +kernel
theorem d_X12_init_287 : decode cX12_init 287 = .ok (.putfield 116, 3) := by decide +kernel
theorem d_X12_init_290 : decode cX12_init 290 = .ok (.aload_n 0, 1) := by decide +kernel
theorem d_X12_init_291 : decode cX12_init 291 = .ok (.bipush 10, 2) := by decide +kernel
theorem d_X12_init_293 : decode cX12_init 293 = .ok (.newarray .boolean, 2) := by decide +kernel
theorem d_X12_init_295 : decode cX12_init 295 = .ok (.putfield 119, 3) := by decide +kernel
theorem d_X12_init_298 : decode cX12_init 298 = .ok (.aload_n 0, 1) := by decide +kernel
theorem d_X12_init_299 : decode cX12_init 299 = .ok (.sipush 1000, 3) := by decide +kernel
theorem d_X12_init_302 : decode cX12_init 302 = .ok (.newarray .int, 2) := by decide +kernel
theorem d_X12_init_304 : decode cX12_init 304 = .ok (.putfield 122, 3) := by decide +kernel
theorem d_X12_init_307 : decode cX12_init 307 = .ok (.aload_n 0, 1) := by decide +kernel
theorem d_X12_init_308 : decode cX12_init 308 = .ok (.sipush 1000, 3) := by decide +kernel
theorem d_X12_init_311 : decode cX12_init 311 = .ok (.newarray .boolean, 2) := by decide +kernel
theorem d_X12_init_313 : decode cX12_init 313 = .ok (.putfield 125, 3) := by decide +kernel
theorem d_X12_init_316 : decode cX12_init 316 = .ok (.aload_n 0, 1) := by decide +kernel
theorem d_X12_init_317 : decode cX12_init 317 = .ok (.bipush 100, 2) := by decide +kernel
theorem d_X12_init_319 : decode cX12_init 319 = .ok (.newarray .int, 2) := by decide +kernel
theorem d_X12_init_321 : decode cX12_init 321 = .ok (.putfield 128, 3) := by decide +kernel
theorem d_X12_init_324 : decode cX12_init 324 = .ok (.aload_n 0, 1) := by decide +kernel
theorem d_X12_init_325 : decode cX12_init 325 = .ok (.bipush 100, 2) := by decide +kernel
theorem d_X12_init_327 : decode cX12_init 327 = .ok (.newarray .boolean, 2) := by decide +kernel
theorem d_X12_init_329 : decode cX12_init 329 = .ok (.putfield 131, 3) := by decide +kernel
theorem d_X12_init_332 : decode cX12_init 332 = .ok (.aload_n 0, 1) := by decide +kernel
theorem d_X12_init_333 : decode cX12_init 333 = .ok (.bipush 100, 2) := by decide +kernel
theorem d_X12_init_335 : decode cX12_init 335 = .ok (.newarray .boolean, 2) := by decide +kernel
theorem d_X12_init_337 : decode cX12_init 337 = .ok (.putfield 134, 3) := by decide +kernel
theorem d_X12_init_340 : decode cX12_init 340 = .ok (.aload_n 0, 1) := by decide +kernel
theorem d_X12_init_341 : decode cX12_init 341 = .ok (.bipush 25, 2) := by decide +kernel
theorem d_X12_init_343 : decode cX12_init 343 = .ok (.newarray .int, 2) := by decide +kernel
theorem d_X12_init_345 : decode cX12_init 345 = .ok (.putfield 137, 3) := by decide +kernel
theorem d_X12_init_348 : decode cX12_init 348 = .ok (.aload_n 0, 1) := by decide +kernel
theorem d_X12_init_349 : decode cX12_init 349 = .ok (.sipush 160, 3) := by decide +kernel
theorem d_X12_init_352 : decode cX12_init 352 = .ok (.newarray .int, 2) := by decide +kernel
theorem d_X12_init_354 : decode cX12_init 354 = .ok (.putfield 140, 3) := by decide +kernel
theorem d_X12_init_357 : decode cX12_init 357 = .ok (.aload_n 0, 1) := by decide +kernel
theorem d_X12_init_358 : decode cX12_init 358 = .ok (.sipush 160, 3) := by decide +kernel
theorem d_X12_init_361 : decode cX12_init 361 = .ok (.newarray .int, 2) := by decide +kernel
theorem d_X12_init_363 : decode cX12_init 363 = .ok (.putfield 143, 3) := by decide +kernel
theorem d_X12_init_366 : decode cX12_init 366 = .ok (.aload_n 0, 1) := by decide +kernel
theorem d_X12_init_367 : decode cX12_init 367 = .ok (.bipush 11, 2) := by decide +kernel
theorem d_X12_init_369 : decode cX12_init 369 = .ok (.newarray .int, 2) := by decide +kernel
theorem d_X12_init_371 : decode cX12_init 371 = .ok (.putfield 146, 3) := by decide +kernel
theorem d_X12_init_374 : decode cX12_init 374 = .ok (.aload_n 0, 1) := by decide +kernel
theorem d_X12_init_375 : decode cX12_init 375 = .ok (.bipush 24, 2) := by decide +kernel
theorem d_X12_init_377 : decode cX12_init 377 = .ok (.newarray .int, 2) := by decide +kernel
theorem d_X12_init_379 : decode cX12_init 379 = .ok (.putfield 149, 3) := by decide +kernel
theorem d_X12_init_382 : decode cX12_init 382 = .ok (.aload_n 0, 1) := by decide +kernel
theorem d_X12_init_383 : decode cX12_init 383 = .ok (.bipush 50, 2) := by decide +kernel
theorem d_X12_init_385 : decode cX12_init 385 = .ok (.newarray .int, 2) := by decide +kernel
theorem d_X12_init_387 : decode cX12_init 387 = .ok (.putfield 152, 3) := by decide +kernel
theorem d_X12_init_390 : decode cX12_init 390 = .ok (.aload_n 0, 1) := by decide +kernel
theorem d_X12_init_391 : decode cX12_init 391 = .ok (.iconst 4, 1) := by decide +kernel
theorem d_X12_init_392 : decode cX12_init 392 = .ok (.newarray .int, 2) := by decide +kernel
theorem d_X12_init_394 : decode cX12_init 394 = .ok (.dup, 1) := by decide +kernel
theorem d_X12_init_395 : decode cX12_init 395 = .ok (.iconst 0, 1) := by decide +kernel
theorem d_X12_init_396 : decode cX12_init 396 = .ok (.iconst (-1), 1) := by decide +kernel
theorem d_X12_init_397 : decode cX12_init 397 = .ok (.iastore, 1) := by decide +kernel
theorem d_X12_init_398 : decode cX12_init 398 = .ok (.dup, 1) := by decide +kernel
theorem d_X12_init_399 : decode cX12_init 399 = .ok (.iconst 1, 1) := by decide +kernel
theorem d_X12_init_400 : decode cX12_init 400 = .ok (.iconst (-1), 1) := by decide +kernel
theorem d_X12_init_401 : decode cX12_init 401 = .ok (.iastore, 1) := by decide +kernel
theorem d_X12_init_402 : decode cX12_init 402 = .ok (.dup, 1) := by decide +kernel
theorem d_X12_init_403 : decode cX12_init 403 = .ok (.iconst 2, 1) := by decide +kernel
theorem d_X12_init_404 : decode cX12_init 404 = .ok (.iconst (-1), 1) := by decide +kernel
theorem d_X12_init_405 : decode cX12_init 405 = .ok (.iastore, 1) := by decide +kernel
theorem d_X12_init_406 : decode cX12_init 406 = .ok (.dup, 1) := by decide +kernel
theorem d_X12_init_407 : decode cX12_init 407 = .ok (.iconst 3, 1) := by decide +kernel
theorem d_X12_init_408 : decode cX12_init 408 = .ok (.iconst (-1), 1) := by decide +kernel
theorem d_X12_init_409 : decode cX12_init 409 = .ok (.iastore, 1) := by decide +kernel
theorem d_X12_init_410 : decode cX12_init 410 = .ok (.putfield 155, 3) := by decide +kernel
theorem d_X12_init_413 : decode cX12_init 413 = .ok (.aload_n 0, 1) := by decide +kernel
theorem d_X12_init_414 : decode cX12_init 414 = .ok (.iconst 4, 1) := by decide +kernel
theorem d_X12_init_415 : decode cX12_init 415 = .ok (.newarray .int, 2) := by decide +kernel
theorem d_X12_init_417 : decode cX12_init 417 = .ok (.putfield 158, 3) := by decide +kernel
theorem d_X12_init_420 : decode cX12_init 420 = .ok (.aload_n 0, 1) := by decide +kernel
theorem d_X12_init_421 : decode cX12_init 421 = .ok (.sipush 160, 3) := by decide +kernel
theorem d_X12_init_424 : decode cX12_init 424 = .ok (.newarray .int, 2) := by decide +kernel
theorem d_X12_init_426 : decode cX12_init 426 = .ok (.putfield 161, 3) := by decide +kernel
theorem d_X12_init_429 : decode cX12_init 429 = .ok (.aload_n 0, 1) := by decide +kernel
theorem d_X12_init_430 : decode cX12_init 430 = .ok (.sipush 160, 3) := by decide +kernel
theorem d_X12_init_433 : decode cX12_init 433 = .ok (.newarray .boolean, 2) := by decide +kernel
theorem d_X12_init_435 : decode cX12_init 435 = .ok (.putfield 164, 3) := by decide +kernel
theorem d_X12_init_438 : decode cX12_init 438 = .ok (.iconst 0, 1) := by decide +kernel
theorem d_X12_init_439 : decode cX12_init 439 = .ok (.istore_n 1, 1) := by decide +kernel
theorem d_X12_init_440 : decode cX12_init 440 = .ok (.iload_n 1, 1) := by decide +kernel
theorem d_X12_init_441 : decode cX12_init 441 = .ok (.sipush 160, 3) := by decide +kernel
theorem d_X12_init_444 : decode cX12_init 444 = .ok (.if_icmp .ge 16, 3) := by decide +kernel
theorem d_X12_init_447 : decode cX12_init 447 = .ok (.aload_n 0, 1) := by decide +kernel
theorem d_X12_init_448 : decode cX12_init 448 = .ok (.getfield 65, 3) := by decide +kernel
theorem d_X12_init_451 : decode cX12_init 451 = .ok (.iload_n 1, 1) := by decide +kernel
theorem d_X12_init_452 : decode cX12_init 452 = .ok (.iconst (-1), 1) := by decide +kernel
theorem d_X12_init_453 : decode cX12_init 453 = .ok (.iastore, 1) := by decide +kernel
theorem d_X12_init_454 : decode cX12_init 454 = .ok (.iinc 1 1, 3) := by decide +kernel
theorem d_X12_init_457 : decode cX12_init 457 = .ok (.goto (-17), 3) := by decide +kernel
theorem d_X12_init_460 : decode cX12_init 460 = .ok (.return_, 1) := by decide +kernel
theorem d_X12_in_0 : decode cX12_in 0 = .ok (.iload_n 0, 1) := by decide +kernel
theorem d_X12_in_1 : decode cX12_in 1 = .ok (.iload_n 1, 1) := by decide +kernel
theorem d_X12_in_2 : decode cX12_in 2 = .ok (.if_icmp .lt 12, 3) := by decide +kernel
theorem d_X12_in_5 : decode cX12_in 5 = .ok (.iload_n 0, 1) := by decide +kernel
theorem d_X12_in_6 : decode cX12_in 6 = .ok (.iload_n 2, 1) := by decide +kernel
theorem d_X12_in_7 : decode cX12_in 7 = .ok (.if_icmp .gt 7, 3) := by decide +kernel
theorem d_X12_in_10 : decode cX12_in 10 = .ok (.iconst 1, 1) := by decide +kernel
theorem d_X12_in_11 : decode cX12_in 11 = .ok (.goto 4, 3) := by decide +kernel
theorem d_X12_in_14 : decode cX12_in 14 = .ok (.iconst 0, 1) := by decide +kernel
theorem d_X12_in_15 : decode cX12_in 15 = .ok (.ireturn, 1) := by decide +kernel
theorem d_X12_refused_0 : decode cX12_refused 0 = .ok (.aload_n 0, 1) := by decide +kernel
theorem d_X12_refused_1 : decode cX12_refused 1 = .ok (.iload_n 1, 1) := by decide +kernel
theorem d_X12_refused_2 : decode cX12_refused 2 = .ok (.putfield 167, 3) := by decide +kernel
theorem d_X12_refused_5 : decode cX12_refused 5 = .ok (.iconst (-1), 1) := by decide +kernel
theorem d_X12_refused_6 : decode cX12_refused 6 = .ok (.ireturn, 1) := by decide +kernel
theorem d_X12_done_0 : decode cX12_done 0 = .ok (.aload_n 0, 1) := by decide +kernel
theorem d_X12_done_1 : decode cX12_done 1 = .ok (.iconst 0, 1) := by decide +kernel
theorem d_X12_done_2 : decode cX12_done 2 = .ok (.putfield 167, 3) := by decide +kernel
theorem d_X12_done_5 : decode cX12_done 5 = .ok (.iload_n 1, 1) := by decide +kernel
theorem d_X12_done_6 : decode cX12_done 6 = .ok (.ireturn, 1) := by decide +kernel
theorem d_X12_isStretch_0 : decode cX12_isStretch 0 = .ok (.iload_n 1, 1) := by decide +kernel
theorem d_X12_isStretch_1 : decode cX12_isStretch 1 = .ok (.iconst 0, 1) := by decide +kernel
theorem d_X12_isStretch_2 : decode cX12_isStretch 2 = .ok (.aload_n 0, 1) := by decide +kernel
theorem d_X12_isStretch_3 : decode cX12_isStretch 3 = .ok (.getfield 171, 3) := by decide +kernel
theorem d_X12_isStretch_6 : decode cX12_isStretch 6 = .ok (.iconst 1, 1) := by decide +kernel
theorem d_X12_isStretch_7 : decode cX12_isStretch 7 = .ok (.isub, 1) := by decide +kernel
theorem d_X12_isStretch_8 : decode cX12_isStretch 8 = .ok (.invokestatic 174, 3) := by decide +kernel
theorem d_X12_isStretch_11 : decode cX12_isStretch 11 = .ok (.ireturn, 1) := by decide +kernel
theorem d_X12_isLanding_0 : decode cX12_isLanding 0 = .ok (.iload_n 1, 1) := by decide +kernel
theorem d_X12_isLanding_1 : decode cX12_isLanding 1 = .ok (.iconst 0, 1) := by decide +kernel
theorem d_X12_isLanding_2 : decode cX12_isLanding 2 = .ok (.aload_n 0, 1) := by decide +kernel
theorem d_X12_isLanding_3 : decode cX12_isLanding 3 = .ok (.getfield 171, 3) := by decide +kernel
theorem d_X12_isLanding_6 : decode cX12_isLanding 6 = .ok (.invokestatic 174, 3) := by decide +kernel
theorem d_X12_isLanding_9 : decode cX12_isLanding 9 = .ok (.ireturn, 1) := by decide +kernel
theorem d_X12_isBoat_0 : decode cX12_isBoat 0 = .ok (.iload_n 1, 1) := by decide +kernel
theorem d_X12_isBoat_1 : decode cX12_isBoat 1 = .ok (.iconst 0, 1) := by decide +kernel
theorem d_X12_isBoat_2 : decode cX12_isBoat 2 = .ok (.aload_n 0, 1) := by decide +kernel
theorem d_X12_isBoat_3 : decode cX12_isBoat 3 = .ok (.getfield 178, 3) := by decide +kernel
theorem d_X12_isBoat_6 : decode cX12_isBoat 6 = .ok (.iconst 1, 1) := by decide +kernel
theorem d_X12_isBoat_7 : decode cX12_isBoat 7 = .ok (.isub, 1) := by decide +kernel
theorem d_X12_isBoat_8 : decode cX12_isBoat 8 = .ok (.invokestatic 174, 3) := by decide +kernel
theorem d_X12_isBoat_11 : decode cX12_isBoat 11 = .ok (.ireturn, 1) := by decide +kernel
theorem d_X12_isBale_0 : decode cX12_isBale 0 = .ok (.iload_n 1, 1) := by decide +kernel
theorem d_X12_isBale_1 : decode cX12_isBale 1 = .ok (.iconst 0, 1) := by decide +kernel
theorem d_X12_isBale_2 : decode cX12_isBale 2 = .ok (.aload_n 0, 1) := by decide +kernel
theorem d_X12_isBale_3 : decode cX12_isBale 3 = .ok (.getfield 181, 3) := by decide +kernel
theorem d_X12_isBale_6 : decode cX12_isBale 6 = .ok (.iconst 1, 1) := by decide +kernel
theorem d_X12_isBale_7 : decode cX12_isBale 7 = .ok (.isub, 1) := by decide +kernel
theorem d_X12_isBale_8 : decode cX12_isBale 8 = .ok (.invokestatic 174, 3) := by decide +kernel
theorem d_X12_isBale_11 : decode cX12_isBale 11 = .ok (.ireturn, 1) := by decide +kernel
theorem d_X12_isDay_0 : decode cX12_isDay 0 = .ok (.iload_n 0, 1) := by decide +kernel
theorem d_X12_isDay_1 : decode cX12_isDay 1 = .ok (.iconst 0, 1) := by decide +kernel
theorem d_X12_isDay_2 : decode cX12_isDay 2 = .ok (.bipush 99, 2) := by decide +kernel
theorem d_X12_isDay_4 : decode cX12_isDay 4 = .ok (.invokestatic 174, 3) := by decide +kernel
theorem d_X12_isDay_7 : decode cX12_isDay 7 = .ok (.ireturn, 1) := by decide +kernel
theorem d_X12_today_0 : decode cX12_today 0 = .ok (.aload_n 0, 1) := by decide +kernel
theorem d_X12_today_1 : decode cX12_today 1 = .ok (.getfield 184, 3) := by decide +kernel
theorem d_X12_today_4 : decode cX12_today 4 = .ok (.bipush 96, 2) := by decide +kernel
theorem d_X12_today_6 : decode cX12_today 6 = .ok (.idiv, 1) := by decide +kernel
theorem d_X12_today_7 : decode cX12_today 7 = .ok (.ireturn, 1) := by decide +kernel
theorem d_X12_isNight_0 : decode cX12_isNight 0 = .ok (.aload_n 0, 1) := by decide +kernel
theorem d_X12_isNight_1 : decode cX12_isNight 1 = .ok (.getfield 184, 3) := by decide +kernel
theorem d_X12_isNight_4 : decode cX12_isNight 4 = .ok (.bipush 96, 2) := by decide +kernel
theorem d_X12_isNight_6 : decode cX12_isNight 6 = .ok (.irem, 1) := by decide +kernel
theorem d_X12_isNight_7 : decode cX12_isNight 7 = .ok (.bipush 24, 2) := by decide +kernel
theorem d_X12_isNight_9 : decode cX12_isNight 9 = .ok (.if_icmp .lt 15, 3) := by decide +kernel
theorem d_X12_isNight_12 : decode cX12_isNight 12 = .ok (.aload_n 0, 1) := by decide +kernel
theorem d_X12_isNight_13 : decode cX12_isNight 13 = .ok (.getfield 184, 3) := by decide +kernel
theorem d_X12_isNight_16 : decode cX12_isNight 16 = .ok (.bipush 96, 2) := by decide +kernel
theorem d_X12_isNight_18 : decode cX12_isNight 18 = .ok (.irem, 1) := by decide +kernel
theorem d_X12_isNight_19 : decode cX12_isNight 19 = .ok (.bipush 72, 2) := by decide +kernel
theorem d_X12_isNight_21 : decode cX12_isNight 21 = .ok (.if_icmp .lt 7, 3) := by decide +kernel
theorem d_X12_isNight_24 : decode cX12_isNight 24 = .ok (.iconst 1, 1) := by decide +kernel
theorem d_X12_isNight_25 : decode cX12_isNight 25 = .ok (.goto 4, 3) := by decide +kernel
theorem d_X12_isNight_28 : decode cX12_isNight 28 = .ok (.iconst 0, 1) := by decide +kernel
theorem d_X12_isNight_29 : decode cX12_isNight 29 = .ok (.ireturn, 1) := by decide +kernel
theorem d_X12_stretch_0 : decode cX12_stretch 0 = .ok (.iload_n 1, 1) := by decide +kernel
theorem d_X12_stretch_1 : decode cX12_stretch 1 = .ok (.iconst 0, 1) := by decide +kernel
theorem d_X12_stretch_2 : decode cX12_stretch 2 = .ok (.iconst 5, 1) := by decide +kernel
theorem d_X12_stretch_3 : decode cX12_stretch 3 = .ok (.invokestatic 174, 3) := by decide +kernel
theorem d_X12_stretch_6 : decode cX12_stretch 6 = .ok (.ifCond .eq 23, 3) := by decide +kernel
theorem d_X12_stretch_9 : decode cX12_stretch 9 = .ok (.iload_n 2, 1) := by decide +kernel
theorem d_X12_stretch_10 : decode cX12_stretch 10 = .ok (.iconst 1, 1) := by decide +kernel
theorem d_X12_stretch_11 : decode cX12_stretch 11 = .ok (.bipush 20, 2) := by decide +kernel
theorem d_X12_stretch_13 : decode cX12_stretch 13 = .ok (.invokestatic 174, 3) := by decide +kernel
theorem d_X12_stretch_16 : decode cX12_stretch 16 = .ok (.ifCond .eq 13, 3) := by decide +kernel
theorem d_X12_stretch_19 : decode cX12_stretch 19 = .ok (.iload_n 3, 1) := by decide +kernel
theorem d_X12_stretch_20 : decode cX12_stretch 20 = .ok (.iconst 0, 1) := by decide +kernel
theorem d_X12_stretch_21 : decode cX12_stretch 21 = .ok (.bipush 99, 2) := by decide +kernel
theorem d_X12_stretch_23 : decode cX12_stretch 23 = .ok (.invokestatic 174, 3) := by decide +kernel
theorem d_X12_stretch_26 : decode cX12_stretch 26 = .ok (.ifCond .ne 9, 3) := by decide +kernel
theorem d_X12_stretch_29 : decode cX12_stretch 29 = .ok (.aload_n 0, 1) := by decide +kernel
theorem d_X12_stretch_30 : decode cX12_stretch 30 = .ok (.iconst 1, 1) := by decide +kernel
theorem d_X12_stretch_31 : decode cX12_stretch 31 = .ok (.invokevirtual 187, 3) := by decide +kernel
theorem d_X12_stretch_34 : decode cX12_stretch 34 = .ok (.ireturn, 1) := by decide +kernel
theorem d_X12_stretch_35 : decode cX12_stretch 35 = .ok (.aload_n 0, 1) := by decide +kernel
theorem d_X12_stretch_36 : decode cX12_stretch 36 = .ok (.getfield 171, 3) := by decide +kernel
theorem d_X12_stretch_39 : decode cX12_stretch 39 = .ok (.bipush 10, 2) := by decide +kernel
theorem d_X12_stretch_41 : decode cX12_stretch 41 = .ok (.if_icmp .ne 9, 3) := by decide +kernel
theorem d_X12_stretch_44 : decode cX12_stretch 44 = .ok (.aload_n 0, 1) := by decide +kernel
theorem d_X12_stretch_45 : decode cX12_stretch 45 = .ok (.iconst 2, 1) := by decide +kernel
theorem d_X12_stretch_46 : decode cX12_stretch 46 = .ok (.invokevirtual 187, 3) := by decide +kernel
theorem d_X12_stretch_49 : decode cX12_stretch 49 = .ok (.ireturn, 1) := by decide +kernel
theorem d_X12_stretch_50 : decode cX12_stretch 50 = .ok (.aload_n 0, 1) := by decide +kernel
theorem d_X12_stretch_51 : decode cX12_stretch 51 = .ok (.getfield 171, 3) := by decide +kernel
theorem d_X12_stretch_54 : decode cX12_stretch 54 = .ok (.istore 4, 2) := by decide +kernel
theorem d_X12_stretch_56 : decode cX12_stretch 56 = .ok (.aload_n 0, 1) := by decide +kernel
theorem d_X12_stretch_57 : decode cX12_stretch 57 = .ok (.getfield 7, 3) := by decide +kernel
theorem d_X12_stretch_60 : decode cX12_stretch 60 = .ok (.iload 4, 2) := by decide +kernel
theorem d_X12_stretch_62 : decode cX12_stretch 62 = .ok (.iload_n 1, 1) := by decide +kernel
theorem d_X12_stretch_63 : decode cX12_stretch 63 = .ok (.iastore, 1) := by decide +kernel
theorem d_X12_stretch_64 : decode cX12_stretch 64 = .ok (.aload_n 0, 1) := by decide +kernel
theorem d_X12_stretch_65 : decode cX12_stretch 65 = .ok (.getfield 13, 3) := by decide +kernel
theorem d_X12_stretch_68 : decode cX12_stretch 68 = .ok (.iload 4, 2) := by decide +kernel
theorem d_X12_stretch_70 : decode cX12_stretch 70 = .ok (.iload_n 2, 1) := by decide +kernel
theorem d_X12_stretch_71 : decode cX12_stretch 71 = .ok (.iastore, 1) := by decide +kernel
theorem d_X12_stretch_72 : decode cX12_stretch 72 = .ok (.aload_n 0, 1) := by decide +kernel
theorem d_X12_stretch_73 : decode cX12_stretch 73 = .ok (.getfield 16, 3) := by decide +kernel
theorem d_X12_stretch_76 : decode cX12_stretch 76 = .ok (.iload 4, 2) := by decide +kernel
theorem d_X12_stretch_78 : decode cX12_stretch 78 = .ok (.iload_n 3, 1) := by decide +kernel
theorem d_X12_stretch_79 : decode cX12_stretch 79 = .ok (.iastore, 1) := by decide +kernel
theorem d_X12_stretch_80 : decode cX12_stretch 80 = .ok (.aload_n 0, 1) := by decide +kernel
theorem d_X12_stretch_81 : decode cX12_stretch 81 = .ok (.getfield 19, 3) := by decide +kernel
theorem d_X12_stretch_84 : decode cX12_stretch 84 = .ok (.iload 4, 2) := by decide +kernel
theorem d_X12_stretch_86 : decode cX12_stretch 86 = .ok (.iconst 0, 1) := by decide +kernel
theorem d_X12_stretch_87 : decode cX12_stretch 87 = .ok (.bastore, 1) := by decide +kernel
theorem d_X12_stretch_88 : decode cX12_stretch 88 = .ok (.iconst 0, 1) := by decide +kernel
theorem d_X12_stretch_89 : decode cX12_stretch 89 = .ok (.istore 5, 2) := by decide +kernel
theorem d_X12_stretch_91 : decode cX12_stretch 91 = .ok (.iload 5, 2) := by decide +kernel
theorem d_X12_stretch_93 : decode cX12_stretch 93 = .ok (.bipush 100, 2) := by decide +kernel
theorem d_X12_stretch_95 : decode cX12_stretch 95 = .ok (.if_icmp .ge 23, 3) := by decide +kernel
theorem d_X12_stretch_98 : decode cX12_stretch 98 = .ok (.aload_n 0, 1) := by decide +kernel
theorem d_X12_stretch_99 : decode cX12_stretch 99 = .ok (.getfield 26, 3) := by decide +kernel
theorem d_X12_stretch_102 : decode cX12_stretch 102 = .ok (.bipush 100, 2) := by decide +kernel
theorem d_X12_stretch_104 : decode cX12_stretch 104 = .ok (.iload 4, 2) := by decide +kernel
theorem d_X12_stretch_106 : decode cX12_stretch 106 = .ok (.imul, 1) := by decide +kernel
theorem d_X12_stretch_107 : decode cX12_stretch 107 = .ok (.iload 5, 2) := by decide +kernel
theorem d_X12_stretch_109 : decode cX12_stretch 109 = .ok (.iadd, 1) := by decide +kernel
theorem d_X12_stretch_110 : decode cX12_stretch 110 = .ok (.iconst 0, 1) := by decide +kernel
theorem d_X12_stretch_111 : decode cX12_stretch 111 = .ok (.bastore, 1) := by decide +kernel
theorem d_X12_stretch_112 : decode cX12_stretch 112 = .ok (.iinc 5 1, 3) := by decide +kernel
theorem d_X12_stretch_115 : decode cX12_stretch 115 = .ok (.goto (-24), 3) := by decide +kernel
theorem d_X12_stretch_118 : decode cX12_stretch 118 = .ok (.iconst 0, 1) := by decide +kernel
theorem d_X12_stretch_119 : decode cX12_stretch 119 = .ok (.istore 5, 2) := by decide +kernel
theorem d_X12_stretch_121 : decode cX12_stretch 121 = .ok (.iload 5, 2) := by decide +kernel
theorem d_X12_stretch_123 : decode cX12_stretch 123 = .ok (.bipush 16, 2) := by decide +kernel
theorem d_X12_stretch_125 : decode cX12_stretch 125 = .ok (.if_icmp .ge 23, 3) := by decide +kernel
theorem d_X12_stretch_128 : decode cX12_stretch 128 = .ok (.aload_n 0, 1) := by decide +kernel
theorem d_X12_stretch_129 : decode cX12_stretch 129 = .ok (.getfield 65, 3) := by decide +kernel
theorem d_X12_stretch_132 : decode cX12_stretch 132 = .ok (.bipush 10, 2) := by decide +kernel
theorem d_X12_stretch_134 : decode cX12_stretch 134 = .ok (.iload 5, 2) := by decide +kernel
theorem d_X12_stretch_136 : decode cX12_stretch 136 = .ok (.imul, 1) := by decide +kernel
theorem d_X12_stretch_137 : decode cX12_stretch 137 = .ok (.iload 4, 2) := by decide +kernel
theorem d_X12_stretch_139 : decode cX12_stretch 139 = .ok (.iadd, 1) := by decide +kernel
theorem d_X12_stretch_140 : decode cX12_stretch 140 = .ok (.iconst (-1), 1) := by decide +kernel
theorem d_X12_stretch_141 : decode cX12_stretch 141 = .ok (.iastore, 1) := by decide +kernel
theorem d_X12_stretch_142 : decode cX12_stretch 142 = .ok (.iinc 5 1, 3) := by decide +kernel
theorem d_X12_stretch_145 : decode cX12_stretch 145 = .ok (.goto (-24), 3) := by decide +kernel
theorem d_X12_stretch_148 : decode cX12_stretch 148 = .ok (.iconst 0, 1) := by decide +kernel
theorem d_X12_stretch_149 : decode cX12_stretch 149 = .ok (.istore 5, 2) := by decide +kernel
theorem d_X12_stretch_151 : decode cX12_stretch 151 = .ok (.iload 5, 2) := by decide +kernel
theorem d_X12_stretch_153 : decode cX12_stretch 153 = .ok (.bipush 10, 2) := by decide +kernel
theorem d_X12_stretch_155 : decode cX12_stretch 155 = .ok (.if_icmp .ge 27, 3) := by decide +kernel
theorem d_X12_stretch_158 : decode cX12_stretch 158 = .ok (.aload_n 0, 1) := by decide +kernel
theorem d_X12_stretch_159 : decode cX12_stretch 159 = .ok (.getfield 65, 3) := by decide +kernel
theorem d_X12_stretch_162 : decode cX12_stretch 162 = .ok (.bipush 10, 2) := by decide +kernel
theorem d_X12_stretch_164 : decode cX12_stretch 164 = .ok (.iconst 5, 1) := by decide +kernel
theorem d_X12_stretch_165 : decode cX12_stretch 165 = .ok (.iload 4, 2) := by decide +kernel
theorem d_X12_stretch_167 : decode cX12_stretch 167 = .ok (.iadd, 1) := by decide +kernel
theorem d_X12_stretch_168 : decode cX12_stretch 168 = .ok (.iconst 1, 1) := by decide +kernel
theorem d_X12_stretch_169 : decode cX12_stretch 169 = .ok (.iadd, 1) := by decide +kernel
theorem d_X12_stretch_170 : decode cX12_stretch 170 = .ok (.imul, 1) := by decide +kernel
theorem d_X12_stretch_171 : decode cX12_stretch 171 = .ok (.iload 5, 2) := by decide +kernel
theorem d_X12_stretch_173 : decode cX12_stretch 173 = .ok (.iadd, 1) := by decide +kernel
theorem d_X12_stretch_174 : decode cX12_stretch 174 = .ok (.iconst (-1), 1) := by decide +kernel
theorem d_X12_stretch_175 : decode cX12_stretch 175 = .ok (.iastore, 1) := by decide +kernel
theorem d_X12_stretch_176 : decode cX12_stretch 176 = .ok (.iinc 5 1, 3) := by decide +kernel
theorem d_X12_stretch_179 : decode cX12_stretch 179 = .ok (.goto (-28), 3) := by decide +kernel
theorem d_X12_stretch_182 : decode cX12_stretch 182 = .ok (.aload_n 0, 1) := by decide +kernel
theorem d_X12_stretch_183 : decode cX12_stretch 183 = .ok (.getfield 68, 3) := by decide +kernel
theorem d_X12_stretch_186 : decode cX12_stretch 186 = .ok (.iload 4, 2) := by decide +kernel
theorem d_X12_stretch_188 : decode cX12_stretch 188 = .ok (.iconst 1, 1) := by decide +kernel
theorem d_X12_stretch_189 : decode cX12_stretch 189 = .ok (.iadd, 1) := by decide +kernel
theorem d_X12_stretch_190 : decode cX12_stretch 190 = .ok (.iconst 0, 1) := by decide +kernel
theorem d_X12_stretch_191 : decode cX12_stretch 191 = .ok (.iastore, 1) := by decide +kernel
theorem d_X12_stretch_192 : decode cX12_stretch 192 = .ok (.aload_n 0, 1) := by decide +kernel
theorem d_X12_stretch_193 : decode cX12_stretch 193 = .ok (.dup, 1) := by decide +kernel
theorem d_X12_stretch_194 : decode cX12_stretch 194 = .ok (.getfield 171, 3) := by decide +kernel
theorem d_X12_stretch_197 : decode cX12_stretch 197 = .ok (.iconst 1, 1) := by decide +kernel
theorem d_X12_stretch_198 : decode cX12_stretch 198 = .ok (.iadd, 1) := by decide +kernel
theorem d_X12_stretch_199 : decode cX12_stretch 199 = .ok (.putfield 171, 3) := by decide +kernel
theorem d_X12_stretch_202 : decode cX12_stretch 202 = .ok (.aload_n 0, 1) := by decide +kernel
theorem d_X12_stretch_203 : decode cX12_stretch 203 = .ok (.iload 4, 2) := by decide +kernel
theorem d_X12_stretch_205 : decode cX12_stretch 205 = .ok (.invokevirtual 191, 3) := by decide +kernel
theorem d_X12_stretch_208 : decode cX12_stretch 208 = .ok (.ireturn, 1) := by decide +kernel
theorem d_X12_told_0 : decode cX12_told 0 = .ok (.iconst 0, 1) := by decide +kernel
theorem d_X12_told_1 : decode cX12_told 1 = .ok (.istore_n 1, 1) := by decide +kernel
theorem d_X12_told_2 : decode cX12_told 2 = .ok (.iconst 0, 1) := by decide +kernel
theorem d_X12_told_3 : decode cX12_told 3 = .ok (.istore_n 2, 1) := by decide +kernel
theorem d_X12_told_4 : decode cX12_told 4 = .ok (.iload_n 2, 1) := by decide +kernel
theorem d_X12_told_5 : decode cX12_told 5 = .ok (.bipush 100, 2) := by decide +kernel
theorem d_X12_told_7 : decode cX12_told 7 = .ok (.if_icmp .ge 26, 3) := by decide +kernel
theorem d_X12_told_10 : decode cX12_told 10 = .ok (.iload_n 1, 1) := by decide +kernel
theorem d_X12_told_11 : decode cX12_told 11 = .ok (.aload_n 0, 1) := by decide +kernel
theorem d_X12_told_12 : decode cX12_told 12 = .ok (.getfield 32, 3) := by decide +kernel
theorem d_X12_told_15 : decode cX12_told 15 = .ok (.iload_n 2, 1) := by decide +kernel
theorem d_X12_told_16 : decode cX12_told 16 = .ok (.baload, 1) := by decide +kernel
theorem d_X12_told_17 : decode cX12_told 17 = .ok (.ifCond .eq 7, 3) := by decide +kernel
theorem d_X12_told_20 : decode cX12_told 20 = .ok (.iconst 1, 1) := by decide +kernel
theorem d_X12_told_21 : decode cX12_told 21 = .ok (.goto 4, 3) := by decide +kernel
theorem d_X12_told_24 : decode cX12_told 24 = .ok (.iconst 0, 1) := by decide +kernel
theorem d_X12_told_25 : decode cX12_told 25 = .ok (.iadd, 1) := by decide +kernel
theorem d_X12_told_26 : decode cX12_told 26 = .ok (.istore_n 1, 1) := by decide +kernel
theorem d_X12_told_27 : decode cX12_told 27 = .ok (.iinc 2 1, 3) := by decide +kernel
theorem d_X12_told_30 : decode cX12_told 30 = .ok (.goto (-26), 3) := by decide +kernel
theorem d_X12_told_33 : decode cX12_told 33 = .ok (.iload_n 1, 1) := by decide +kernel
theorem d_X12_told_34 : decode cX12_told 34 = .ok (.ireturn, 1) := by decide +kernel
theorem d_X12_gauge_0 : decode cX12_gauge 0 = .ok (.iload_n 1, 1) := by decide +kernel
theorem d_X12_gauge_1 : decode cX12_gauge 1 = .ok (.invokestatic 194, 3) := by decide +kernel
theorem d_X12_gauge_4 : decode cX12_gauge 4 = .ok (.ifCond .eq 14, 3) := by decide +kernel
theorem d_X12_gauge_7 : decode cX12_gauge 7 = .ok (.iload_n 2, 1) := by decide +kernel
theorem d_X12_gauge_8 : decode cX12_gauge 8 = .ok (.bipush (-20), 2) := by decide +kernel
theorem d_X12_gauge_10 : decode cX12_gauge 10 = .ok (.bipush 40, 2) := by decide +kernel
theorem d_X12_gauge_12 : decode cX12_gauge 12 = .ok (.invokestatic 174, 3) := by decide +kernel
theorem d_X12_gauge_15 : decode cX12_gauge 15 = .ok (.ifCond .ne 9, 3) := by decide +kernel
theorem d_X12_gauge_18 : decode cX12_gauge 18 = .ok (.aload_n 0, 1) := by decide +kernel
theorem d_X12_gauge_19 : decode cX12_gauge 19 = .ok (.iconst 1, 1) := by decide +kernel
theorem d_X12_gauge_20 : decode cX12_gauge 20 = .ok (.invokevirtual 187, 3) := by decide +kernel
theorem d_X12_gauge_23 : decode cX12_gauge 23 = .ok (.ireturn, 1) := by decide +kernel
theorem d_X12_gauge_24 : decode cX12_gauge 24 = .ok (.aload_n 0, 1) := by decide +kernel
theorem d_X12_gauge_25 : decode cX12_gauge 25 = .ok (.getfield 29, 3) := by decide +kernel
theorem d_X12_gauge_28 : decode cX12_gauge 28 = .ok (.iload_n 1, 1) := by decide +kernel
theorem d_X12_gauge_29 : decode cX12_gauge 29 = .ok (.iload_n 2, 1) := by decide +kernel
theorem d_X12_gauge_30 : decode cX12_gauge 30 = .ok (.iastore, 1) := by decide +kernel
theorem d_X12_gauge_31 : decode cX12_gauge 31 = .ok (.aload_n 0, 1) := by decide +kernel
theorem d_X12_gauge_32 : decode cX12_gauge 32 = .ok (.getfield 32, 3) := by decide +kernel
theorem d_X12_gauge_35 : decode cX12_gauge 35 = .ok (.iload_n 1, 1) := by decide +kernel
theorem d_X12_gauge_36 : decode cX12_gauge 36 = .ok (.iconst 1, 1) := by decide +kernel
theorem d_X12_gauge_37 : decode cX12_gauge 37 = .ok (.bastore, 1) := by decide +kernel
theorem d_X12_gauge_38 : decode cX12_gauge 38 = .ok (.aload_n 0, 1) := by decide +kernel
theorem d_X12_gauge_39 : decode cX12_gauge 39 = .ok (.aload_n 0, 1) := by decide +kernel
theorem d_X12_gauge_40 : decode cX12_gauge 40 = .ok (.invokevirtual 198, 3) := by decide +kernel
theorem d_X12_gauge_43 : decode cX12_gauge 43 = .ok (.invokevirtual 191, 3) := by decide +kernel
theorem d_X12_gauge_46 : decode cX12_gauge 46 = .ok (.ireturn, 1) := by decide +kernel
theorem d_X12_isBar_0 : decode cX12_isBar 0 = .ok (.aload_n 0, 1) := by decide +kernel
theorem d_X12_isBar_1 : decode cX12_isBar 1 = .ok (.getfield 7, 3) := by decide +kernel
theorem d_X12_isBar_4 : decode cX12_isBar 4 = .ok (.iload_n 1, 1) := by decide +kernel
theorem d_X12_isBar_5 : decode cX12_isBar 5 = .ok (.iaload, 1) := by decide +kernel
theorem d_X12_isBar_6 : decode cX12_isBar 6 = .ok (.iconst 1, 1) := by decide +kernel
theorem d_X12_isBar_7 : decode cX12_isBar 7 = .ok (.if_icmp .eq 13, 3) := by decide +kernel
theorem d_X12_isBar_10 : decode cX12_isBar 10 = .ok (.aload_n 0, 1) := by decide +kernel
theorem d_X12_isBar_11 : decode cX12_isBar 11 = .ok (.getfield 7, 3) := by decide +kernel
theorem d_X12_isBar_14 : decode cX12_isBar 14 = .ok (.iload_n 1, 1) := by decide +kernel
theorem d_X12_isBar_15 : decode cX12_isBar 15 = .ok (.iaload, 1) := by decide +kernel
theorem d_X12_isBar_16 : decode cX12_isBar 16 = .ok (.iconst 3, 1) := by decide +kernel
theorem d_X12_isBar_17 : decode cX12_isBar 17 = .ok (.if_icmp .ne 7, 3) := by decide +kernel
theorem d_X12_isBar_20 : decode cX12_isBar 20 = .ok (.iconst 1, 1) := by decide +kernel
theorem d_X12_isBar_21 : decode cX12_isBar 21 = .ok (.goto 4, 3) := by decide +kernel
theorem d_X12_isBar_24 : decode cX12_isBar 24 = .ok (.iconst 0, 1) := by decide +kernel
theorem d_X12_isBar_25 : decode cX12_isBar 25 = .ok (.ireturn, 1) := by decide +kernel
theorem d_X12_shift_0 : decode cX12_shift 0 = .ok (.aload_n 0, 1) := by decide +kernel
theorem d_X12_shift_1 : decode cX12_shift 1 = .ok (.iload_n 1, 1) := by decide +kernel
theorem d_X12_shift_2 : decode cX12_shift 2 = .ok (.invokevirtual 202, 3) := by decide +kernel
theorem d_X12_shift_5 : decode cX12_shift 5 = .ok (.ifCond .eq 21, 3) := by decide +kernel
theorem d_X12_shift_8 : decode cX12_shift 8 = .ok (.iload_n 2, 1) := by decide +kernel
theorem d_X12_shift_9 : decode cX12_shift 9 = .ok (.invokestatic 194, 3) := by decide +kernel
theorem d_X12_shift_12 : decode cX12_shift 12 = .ok (.ifCond .eq 14, 3) := by decide +kernel
theorem d_X12_shift_15 : decode cX12_shift 15 = .ok (.iload_n 3, 1) := by decide +kernel
theorem d_X12_shift_16 : decode cX12_shift 16 = .ok (.bipush (-20), 2) := by decide +kernel
theorem d_X12_shift_18 : decode cX12_shift 18 = .ok (.bipush 20, 2) := by decide +kernel
theorem d_X12_shift_20 : decode cX12_shift 20 = .ok (.invokestatic 174, 3) := by decide +kernel
theorem d_X12_shift_23 : decode cX12_shift 23 = .ok (.ifCond .ne 9, 3) := by decide +kernel
theorem d_X12_shift_26 : decode cX12_shift 26 = .ok (.aload_n 0, 1) := by decide +kernel
theorem d_X12_shift_27 : decode cX12_shift 27 = .ok (.iconst 1, 1) := by decide +kernel
theorem d_X12_shift_28 : decode cX12_shift 28 = .ok (.invokevirtual 187, 3) := by decide +kernel
theorem d_X12_shift_31 : decode cX12_shift 31 = .ok (.ireturn, 1) := by decide +kernel
theorem d_X12_shift_32 : decode cX12_shift 32 = .ok (.aload_n 0, 1) := by decide +kernel
theorem d_X12_shift_33 : decode cX12_shift 33 = .ok (.iload_n 1, 1) := by decide +kernel
theorem d_X12_shift_34 : decode cX12_shift 34 = .ok (.invokevirtual 205, 3) := by decide +kernel
theorem d_X12_shift_37 : decode cX12_shift 37 = .ok (.ifCond .ne 9, 3) := by decide +kernel
theorem d_X12_shift_40 : decode cX12_shift 40 = .ok (.aload_n 0, 1) := by decide +kernel
theorem d_X12_shift_41 : decode cX12_shift 41 = .ok (.iconst 3, 1) := by decide +kernel
theorem d_X12_shift_42 : decode cX12_shift 42 = .ok (.invokevirtual 187, 3) := by decide +kernel
theorem d_X12_shift_45 : decode cX12_shift 45 = .ok (.ireturn, 1) := by decide +kernel
theorem d_X12_shift_46 : decode cX12_shift 46 = .ok (.aload_n 0, 1) := by decide +kernel
theorem d_X12_shift_47 : decode cX12_shift 47 = .ok (.getfield 23, 3) := by decide +kernel
theorem d_X12_shift_50 : decode cX12_shift 50 = .ok (.bipush 100, 2) := by decide +kernel
theorem d_X12_shift_52 : decode cX12_shift 52 = .ok (.iload_n 1, 1) := by decide +kernel
theorem d_X12_shift_53 : decode cX12_shift 53 = .ok (.imul, 1) := by decide +kernel
theorem d_X12_shift_54 : decode cX12_shift 54 = .ok (.iload_n 2, 1) := by decide +kernel
theorem d_X12_shift_55 : decode cX12_shift 55 = .ok (.iadd, 1) := by decide +kernel
theorem d_X12_shift_56 : decode cX12_shift 56 = .ok (.iload_n 3, 1) := by decide +kernel
theorem d_X12_shift_57 : decode cX12_shift 57 = .ok (.iastore, 1) := by decide +kernel
theorem d_X12_shift_58 : decode cX12_shift 58 = .ok (.aload_n 0, 1) := by decide +kernel
theorem d_X12_shift_59 : decode cX12_shift 59 = .ok (.getfield 26, 3) := by decide +kernel
theorem d_X12_shift_62 : decode cX12_shift 62 = .ok (.bipush 100, 2) := by decide +kernel
theorem d_X12_shift_64 : decode cX12_shift 64 = .ok (.iload_n 1, 1) := by decide +kernel
theorem d_X12_shift_65 : decode cX12_shift 65 = .ok (.imul, 1) := by decide +kernel
theorem d_X12_shift_66 : decode cX12_shift 66 = .ok (.iload_n 2, 1) := by decide +kernel
theorem d_X12_shift_67 : decode cX12_shift 67 = .ok (.iadd, 1) := by decide +kernel
theorem d_X12_shift_68 : decode cX12_shift 68 = .ok (.iconst 1, 1) := by decide +kernel
theorem d_X12_shift_69 : decode cX12_shift 69 = .ok (.bastore, 1) := by decide +kernel
theorem d_X12_shift_70 : decode cX12_shift 70 = .ok (.aload_n 0, 1) := by decide +kernel
theorem d_X12_shift_71 : decode cX12_shift 71 = .ok (.iconst 1, 1) := by decide +kernel
theorem d_X12_shift_72 : decode cX12_shift 72 = .ok (.invokevirtual 191, 3) := by decide +kernel
theorem d_X12_shift_75 : decode cX12_shift 75 = .ok (.ireturn, 1) := by decide +kernel
theorem d_X12_cold_0 : decode cX12_cold 0 = .ok (.iload_n 1, 1) := by decide +kernel
theorem d_X12_cold_1 : decode cX12_cold 1 = .ok (.invokestatic 194, 3) := by decide +kernel
theorem d_X12_cold_4 : decode cX12_cold 4 = .ok (.ifCond .ne 9, 3) := by decide +kernel
theorem d_X12_cold_7 : decode cX12_cold 7 = .ok (.aload_n 0, 1) := by decide +kernel
theorem d_X12_cold_8 : decode cX12_cold 8 = .ok (.iconst 1, 1) := by decide +kernel
theorem d_X12_cold_9 : decode cX12_cold 9 = .ok (.invokevirtual 187, 3) := by decide +kernel
theorem d_X12_cold_12 : decode cX12_cold 12 = .ok (.ireturn, 1) := by decide +kernel
theorem d_X12_cold_13 : decode cX12_cold 13 = .ok (.aload_n 0, 1) := by decide +kernel
theorem d_X12_cold_14 : decode cX12_cold 14 = .ok (.getfield 35, 3) := by decide +kernel
theorem d_X12_cold_17 : decode cX12_cold 17 = .ok (.iload_n 1, 1) := by decide +kernel
theorem d_X12_cold_18 : decode cX12_cold 18 = .ok (.baload, 1) := by decide +kernel
theorem d_X12_cold_19 : decode cX12_cold 19 = .ok (.istore_n 3, 1) := by decide +kernel
theorem d_X12_cold_20 : decode cX12_cold 20 = .ok (.aload_n 0, 1) := by decide +kernel
theorem d_X12_cold_21 : decode cX12_cold 21 = .ok (.getfield 35, 3) := by decide +kernel
theorem d_X12_cold_24 : decode cX12_cold 24 = .ok (.iload_n 1, 1) := by decide +kernel
theorem d_X12_cold_25 : decode cX12_cold 25 = .ok (.iload_n 2, 1) := by decide +kernel
theorem d_X12_cold_26 : decode cX12_cold 26 = .ok (.bastore, 1) := by decide +kernel
theorem d_X12_cold_27 : decode cX12_cold 27 = .ok (.aload_n 0, 1) := by decide +kernel
theorem d_X12_cold_28 : decode cX12_cold 28 = .ok (.iload_n 3, 1) := by decide +kernel
theorem d_X12_cold_29 : decode cX12_cold 29 = .ok (.iload_n 2, 1) := by decide +kernel
theorem d_X12_cold_30 : decode cX12_cold 30 = .ok (.if_icmp .eq 7, 3) := by decide +kernel
theorem d_X12_cold_33 : decode cX12_cold 33 = .ok (.iconst 1, 1) := by decide +kernel
theorem d_X12_cold_34 : decode cX12_cold 34 = .ok (.goto 4, 3) := by decide +kernel
theorem d_X12_cold_37 : decode cX12_cold 37 = .ok (.iconst 0, 1) := by decide +kernel
theorem d_X12_cold_38 : decode cX12_cold 38 = .ok (.invokevirtual 191, 3) := by decide +kernel
theorem d_X12_cold_41 : decode cX12_cold 41 = .ok (.ireturn, 1) := by decide +kernel
theorem d_X12_light_0 : decode cX12_light 0 = .ok (.aload_n 0, 1) := by decide +kernel
theorem d_X12_light_1 : decode cX12_light 1 = .ok (.iload_n 1, 1) := by decide +kernel
theorem d_X12_light_2 : decode cX12_light 2 = .ok (.invokevirtual 202, 3) := by decide +kernel
theorem d_X12_light_5 : decode cX12_light 5 = .ok (.ifCond .ne 9, 3) := by decide +kernel
theorem d_X12_light_8 : decode cX12_light 8 = .ok (.aload_n 0, 1) := by decide +kernel
theorem d_X12_light_9 : decode cX12_light 9 = .ok (.iconst 1, 1) := by decide +kernel
theorem d_X12_light_10 : decode cX12_light 10 = .ok (.invokevirtual 187, 3) := by decide +kernel
theorem d_X12_light_13 : decode cX12_light 13 = .ok (.ireturn, 1) := by decide +kernel
theorem d_X12_light_14 : decode cX12_light 14 = .ok (.aload_n 0, 1) := by decide +kernel
theorem d_X12_light_15 : decode cX12_light 15 = .ok (.getfield 7, 3) := by decide +kernel
theorem d_X12_light_18 : decode cX12_light 18 = .ok (.iload_n 1, 1) := by decide +kernel
theorem d_X12_light_19 : decode cX12_light 19 = .ok (.iaload, 1) := by decide +kernel
theorem d_X12_light_20 : decode cX12_light 20 = .ok (.iconst 3, 1) := by decide +kernel
theorem d_X12_light_21 : decode cX12_light 21 = .ok (.if_icmp .eq 9, 3) := by decide +kernel
theorem d_X12_light_24 : decode cX12_light 24 = .ok (.aload_n 0, 1) := by decide +kernel
theorem d_X12_light_25 : decode cX12_light 25 = .ok (.iconst 3, 1) := by decide +kernel
theorem d_X12_light_26 : decode cX12_light 26 = .ok (.invokevirtual 187, 3) := by decide +kernel
theorem d_X12_light_29 : decode cX12_light 29 = .ok (.ireturn, 1) := by decide +kernel
theorem d_X12_light_30 : decode cX12_light 30 = .ok (.aload_n 0, 1) := by decide +kernel
theorem d_X12_light_31 : decode cX12_light 31 = .ok (.getfield 19, 3) := by decide +kernel
theorem d_X12_light_34 : decode cX12_light 34 = .ok (.iload_n 1, 1) := by decide +kernel
theorem d_X12_light_35 : decode cX12_light 35 = .ok (.baload, 1) := by decide +kernel
theorem d_X12_light_36 : decode cX12_light 36 = .ok (.istore_n 3, 1) := by decide +kernel
theorem d_X12_light_37 : decode cX12_light 37 = .ok (.aload_n 0, 1) := by decide +kernel
theorem d_X12_light_38 : decode cX12_light 38 = .ok (.getfield 19, 3) := by decide +kernel
theorem d_X12_light_41 : decode cX12_light 41 = .ok (.iload_n 1, 1) := by decide +kernel
theorem d_X12_light_42 : decode cX12_light 42 = .ok (.iload_n 2, 1) := by decide +kernel
theorem d_X12_light_43 : decode cX12_light 43 = .ok (.bastore, 1) := by decide +kernel
theorem d_X12_light_44 : decode cX12_light 44 = .ok (.aload_n 0, 1) := by decide +kernel
theorem d_X12_light_45 : decode cX12_light 45 = .ok (.iload_n 3, 1) := by decide +kernel
theorem d_X12_light_46 : decode cX12_light 46 = .ok (.iload_n 2, 1) := by decide +kernel
theorem d_X12_light_47 : decode cX12_light 47 = .ok (.if_icmp .eq 7, 3) := by decide +kernel
theorem d_X12_light_50 : decode cX12_light 50 = .ok (.iconst 1, 1) := by decide +kernel
theorem d_X12_light_51 : decode cX12_light 51 = .ok (.goto 4, 3) := by decide +kernel
theorem d_X12_light_54 : decode cX12_light 54 = .ok (.iconst 0, 1) := by decide +kernel
theorem d_X12_light_55 : decode cX12_light 55 = .ok (.invokevirtual 191, 3) := by decide +kernel
theorem d_X12_light_58 : decode cX12_light 58 = .ok (.ireturn, 1) := by decide +kernel
theorem d_X12_heightOf_0 : decode cX12_heightOf 0 = .ok (.iload_n 1, 1) := by decide +kernel
theorem d_X12_heightOf_1 : decode cX12_heightOf 1 = .ok (.istore_n 2, 1) := by decide +kernel
theorem d_X12_heightOf_2 : decode cX12_heightOf 2 = .ok (.iload_n 2, 1) := by decide +kernel
theorem d_X12_heightOf_3 : decode cX12_heightOf 3 = .ok (.ifCond .lt 18, 3) := by decide +kernel
theorem d_X12_heightOf_6 : decode cX12_heightOf 6 = .ok (.aload_n 0, 1) := by decide +kernel
theorem d_X12_heightOf_7 : decode cX12_heightOf 7 = .ok (.getfield 32, 3) := by decide +kernel
theorem d_X12_heightOf_10 : decode cX12_heightOf 10 = .ok (.iload_n 2, 1) := by decide +kernel
theorem d_X12_heightOf_11 : decode cX12_heightOf 11 = .ok (.baload, 1) := by decide +kernel
theorem d_X12_heightOf_12 : decode cX12_heightOf 12 = .ok (.ifCond .ne 9, 3) := by decide +kernel
theorem d_X12_heightOf_15 : decode cX12_heightOf 15 = .ok (.iinc 2 (-1), 3) := by decide +kernel
theorem d_X12_heightOf_18 : decode cX12_heightOf 18 = .ok (.goto (-16), 3) := by decide +kernel
theorem d_X12_heightOf_21 : decode cX12_heightOf 21 = .ok (.iload_n 1, 1) := by decide +kernel
theorem d_X12_heightOf_22 : decode cX12_heightOf 22 = .ok (.istore_n 3, 1) := by decide +kernel
theorem d_X12_heightOf_23 : decode cX12_heightOf 23 = .ok (.iload_n 3, 1) := by decide +kernel
theorem d_X12_heightOf_24 : decode cX12_heightOf 24 = .ok (.bipush 100, 2) := by decide +kernel
theorem d_X12_heightOf_26 : decode cX12_heightOf 26 = .ok (.if_icmp .ge 18, 3) := by decide +kernel
theorem d_X12_heightOf_29 : decode cX12_heightOf 29 = .ok (.aload_n 0, 1) := by decide +kernel
theorem d_X12_heightOf_30 : decode cX12_heightOf 30 = .ok (.getfield 32, 3) := by decide +kernel
theorem d_X12_heightOf_33 : decode cX12_heightOf 33 = .ok (.iload_n 3, 1) := by decide +kernel
theorem d_X12_heightOf_34 : decode cX12_heightOf 34 = .ok (.baload, 1) := by decide +kernel
theorem d_X12_heightOf_35 : decode cX12_heightOf 35 = .ok (.ifCond .ne 9, 3) := by decide +kernel
theorem d_X12_heightOf_38 : decode cX12_heightOf 38 = .ok (.iinc 3 1, 3) := by decide +kernel
theorem d_X12_heightOf_41 : decode cX12_heightOf 41 = .ok (.goto (-18), 3) := by decide +kernel
theorem d_X12_heightOf_44 : decode cX12_heightOf 44 = .ok (.iload_n 2, 1) := by decide +kernel
theorem d_X12_heightOf_45 : decode cX12_heightOf 45 = .ok (.ifCond .lt 9, 3) := by decide +kernel
theorem d_X12_heightOf_48 : decode cX12_heightOf 48 = .ok (.iload_n 3, 1) := by decide +kernel
theorem d_X12_heightOf_49 : decode cX12_heightOf 49 = .ok (.bipush 100, 2) := by decide +kernel
theorem d_X12_heightOf_51 : decode cX12_heightOf 51 = .ok (.if_icmp .ne 33, 3) := by decide +kernel
theorem d_X12_heightOf_54 : decode cX12_heightOf 54 = .ok (.iload_n 2, 1) := by decide +kernel
theorem d_X12_heightOf_55 : decode cX12_heightOf 55 = .ok (.ifCond .lt 12, 3) := by decide +kernel
theorem d_X12_heightOf_58 : decode cX12_heightOf 58 = .ok (.aload_n 0, 1) := by decide +kernel
theorem d_X12_heightOf_59 : decode cX12_heightOf 59 = .ok (.getfield 29, 3) := by decide +kernel
theorem d_X12_heightOf_62 : decode cX12_heightOf 62 = .ok (.iload_n 2, 1) := by decide +kernel
theorem d_X12_heightOf_63 : decode cX12_heightOf 63 = .ok (.iaload, 1) := by decide +kernel
theorem d_X12_heightOf_64 : decode cX12_heightOf 64 = .ok (.goto 19, 3) := by decide +kernel
theorem d_X12_heightOf_67 : decode cX12_heightOf 67 = .ok (.iload_n 3, 1) := by decide +kernel
theorem d_X12_heightOf_68 : decode cX12_heightOf 68 = .ok (.bipush 100, 2) := by decide +kernel
theorem d_X12_heightOf_70 : decode cX12_heightOf 70 = .ok (.if_icmp .ge 12, 3) := by decide +kernel
theorem d_X12_heightOf_73 : decode cX12_heightOf 73 = .ok (.aload_n 0, 1) := by decide +kernel
theorem d_X12_heightOf_74 : decode cX12_heightOf 74 = .ok (.getfield 29, 3) := by decide +kernel
theorem d_X12_heightOf_77 : decode cX12_heightOf 77 = .ok (.iload_n 3, 1) := by decide +kernel
theorem d_X12_heightOf_78 : decode cX12_heightOf 78 = .ok (.iaload, 1) := by decide +kernel
theorem d_X12_heightOf_79 : decode cX12_heightOf 79 = .ok (.goto 4, 3) := by decide +kernel
theorem d_X12_heightOf_82 : decode cX12_heightOf 82 = .ok (.iconst 0, 1) := by decide +kernel
theorem d_X12_heightOf_83 : decode cX12_heightOf 83 = .ok (.ireturn, 1) := by decide +kernel
theorem d_X12_heightOf_84 : decode cX12_heightOf 84 = .ok (.iload_n 2, 1) := by decide +kernel
theorem d_X12_heightOf_85 : decode cX12_heightOf 85 = .ok (.iload_n 3, 1) := by decide +kernel
theorem d_X12_heightOf_86 : decode cX12_heightOf 86 = .ok (.if_icmp .ne 12, 3) := by decide +kernel
theorem d_X12_heightOf_89 : decode cX12_heightOf 89 = .ok (.aload_n 0, 1) := by decide +kernel
theorem d_X12_heightOf_90 : decode cX12_heightOf 90 = .ok (.getfield 29, 3) := by decide +kernel
theorem d_X12_heightOf_93 : decode cX12_heightOf 93 = .ok (.iload_n 2, 1) := by decide +kernel
theorem d_X12_heightOf_94 : decode cX12_heightOf 94 = .ok (.iaload, 1) := by decide +kernel
theorem d_X12_heightOf_95 : decode cX12_heightOf 95 = .ok (.goto 31, 3) := by decide +kernel
theorem d_X12_heightOf_98 : decode cX12_heightOf 98 = .ok (.aload_n 0, 1) := by decide +kernel
theorem d_X12_heightOf_99 : decode cX12_heightOf 99 = .ok (.getfield 29, 3) := by decide +kernel
theorem d_X12_heightOf_102 : decode cX12_heightOf 102 = .ok (.iload_n 2, 1) := by decide +kernel
theorem d_X12_heightOf_103 : decode cX12_heightOf 103 = .ok (.iaload, 1) := by decide +kernel
theorem d_X12_heightOf_104 : decode cX12_heightOf 104 = .ok (.aload_n 0, 1) := by decide +kernel
theorem d_X12_heightOf_105 : decode cX12_heightOf 105 = .ok (.getfield 29, 3) := by decide +kernel
theorem d_X12_heightOf_108 : decode cX12_heightOf 108 = .ok (.iload_n 3, 1) := by decide +kernel
theorem d_X12_heightOf_109 : decode cX12_heightOf 109 = .ok (.iaload, 1) := by decide +kernel
theorem d_X12_heightOf_110 : decode cX12_heightOf 110 = .ok (.aload_n 0, 1) := by decide +kernel
theorem d_X12_heightOf_111 : decode cX12_heightOf 111 = .ok (.getfield 29, 3) := by decide +kernel
theorem d_X12_heightOf_114 : decode cX12_heightOf 114 = .ok (.iload_n 2, 1) := by decide +kernel
theorem d_X12_heightOf_115 : decode cX12_heightOf 115 = .ok (.iaload, 1) := by decide +kernel
theorem d_X12_heightOf_116 : decode cX12_heightOf 116 = .ok (.isub, 1) := by decide +kernel
theorem d_X12_heightOf_117 : decode cX12_heightOf 117 = .ok (.iload_n 1, 1) := by decide +kernel
theorem d_X12_heightOf_118 : decode cX12_heightOf 118 = .ok (.iload_n 2, 1) := by decide +kernel
theorem d_X12_heightOf_119 : decode cX12_heightOf 119 = .ok (.isub, 1) := by decide +kernel
theorem d_X12_heightOf_120 : decode cX12_heightOf 120 = .ok (.imul, 1) := by decide +kernel
theorem d_X12_heightOf_121 : decode cX12_heightOf 121 = .ok (.iload_n 3, 1) := by decide +kernel
theorem d_X12_heightOf_122 : decode cX12_heightOf 122 = .ok (.iload_n 2, 1) := by decide +kernel
theorem d_X12_heightOf_123 : decode cX12_heightOf 123 = .ok (.isub, 1) := by decide +kernel
theorem d_X12_heightOf_124 : decode cX12_heightOf 124 = .ok (.idiv, 1) := by decide +kernel
theorem d_X12_heightOf_125 : decode cX12_heightOf 125 = .ok (.iadd, 1) := by decide +kernel
theorem d_X12_heightOf_126 : decode cX12_heightOf 126 = .ok (.ireturn, 1) := by decide +kernel
theorem d_X12_height_0 : decode cX12_height 0 = .ok (.iload_n 1, 1) := by decide +kernel
theorem d_X12_height_1 : decode cX12_height 1 = .ok (.invokestatic 194, 3) := by decide +kernel
theorem d_X12_height_4 : decode cX12_height 4 = .ok (.ifCond .eq 11, 3) := by decide +kernel
theorem d_X12_height_7 : decode cX12_height 7 = .ok (.aload_n 0, 1) := by decide +kernel
theorem d_X12_height_8 : decode cX12_height 8 = .ok (.iload_n 1, 1) := by decide +kernel
theorem d_X12_height_9 : decode cX12_height 9 = .ok (.invokevirtual 208, 3) := by decide +kernel
theorem d_X12_height_12 : decode cX12_height 12 = .ok (.goto 6, 3) := by decide +kernel
theorem d_X12_height_15 : decode cX12_height 15 = .ok (.sipush (-1000), 3) := by decide +kernel
theorem d_X12_height_18 : decode cX12_height 18 = .ok (.ireturn, 1) := by decide +kernel
theorem d_X12_shiftOf_0 : decode cX12_shiftOf 0 = .ok (.iload_n 2, 1) := by decide +kernel
theorem d_X12_shiftOf_1 : decode cX12_shiftOf 1 = .ok (.istore_n 3, 1) := by decide +kernel
theorem d_X12_shiftOf_2 : decode cX12_shiftOf 2 = .ok (.aload_n 0, 1) := by decide +kernel
theorem d_X12_shiftOf_3 : decode cX12_shiftOf 3 = .ok (.iload_n 1, 1) := by decide +kernel
theorem d_X12_shiftOf_4 : decode cX12_shiftOf 4 = .ok (.invokevirtual 205, 3) := by decide +kernel
theorem d_X12_shiftOf_7 : decode cX12_shiftOf 7 = .ok (.ifCond .eq 39, 3) := by decide +kernel
theorem d_X12_shiftOf_10 : decode cX12_shiftOf 10 = .ok (.iload_n 3, 1) := by decide +kernel
theorem d_X12_shiftOf_11 : decode cX12_shiftOf 11 = .ok (.ifCond .lt 35, 3) := by decide +kernel
theorem d_X12_shiftOf_14 : decode cX12_shiftOf 14 = .ok (.aload_n 0, 1) := by decide +kernel
theorem d_X12_shiftOf_15 : decode cX12_shiftOf 15 = .ok (.getfield 26, 3) := by decide +kernel
theorem d_X12_shiftOf_18 : decode cX12_shiftOf 18 = .ok (.bipush 100, 2) := by decide +kernel
theorem d_X12_shiftOf_20 : decode cX12_shiftOf 20 = .ok (.iload_n 1, 1) := by decide +kernel
theorem d_X12_shiftOf_21 : decode cX12_shiftOf 21 = .ok (.imul, 1) := by decide +kernel
theorem d_X12_shiftOf_22 : decode cX12_shiftOf 22 = .ok (.iload_n 3, 1) := by decide +kernel
theorem d_X12_shiftOf_23 : decode cX12_shiftOf 23 = .ok (.iadd, 1) := by decide +kernel
theorem d_X12_shiftOf_24 : decode cX12_shiftOf 24 = .ok (.baload, 1) := by decide +kernel
theorem d_X12_shiftOf_25 : decode cX12_shiftOf 25 = .ok (.ifCond .eq 15, 3) := by decide +kernel
theorem d_X12_shiftOf_28 : decode cX12_shiftOf 28 = .ok (.aload_n 0, 1) := by decide +kernel
theorem d_X12_shiftOf_29 : decode cX12_shiftOf 29 = .ok (.getfield 23, 3) := by decide +kernel
theorem d_X12_shiftOf_32 : decode cX12_shiftOf 32 = .ok (.bipush 100, 2) := by decide +kernel
theorem d_X12_shiftOf_34 : decode cX12_shiftOf 34 = .ok (.iload_n 1, 1) := by decide +kernel
theorem d_X12_shiftOf_35 : decode cX12_shiftOf 35 = .ok (.imul, 1) := by decide +kernel
theorem d_X12_shiftOf_36 : decode cX12_shiftOf 36 = .ok (.iload_n 3, 1) := by decide +kernel
theorem d_X12_shiftOf_37 : decode cX12_shiftOf 37 = .ok (.iadd, 1) := by decide +kernel
theorem d_X12_shiftOf_38 : decode cX12_shiftOf 38 = .ok (.iaload, 1) := by decide +kernel
theorem d_X12_shiftOf_39 : decode cX12_shiftOf 39 = .ok (.ireturn, 1) := by decide +kernel
theorem d_X12_shiftOf_40 : decode cX12_shiftOf 40 = .ok (.iinc 3 (-1), 3) := by decide +kernel
theorem d_X12_shiftOf_43 : decode cX12_shiftOf 43 = .ok (.goto (-41), 3) := by decide +kernel
theorem d_X12_shiftOf_46 : decode cX12_shiftOf 46 = .ok (.iconst 0, 1) := by decide +kernel
theorem d_X12_shiftOf_47 : decode cX12_shiftOf 47 = .ok (.ireturn, 1) := by decide +kernel
theorem d_X12_waterOf_0 : decode cX12_waterOf 0 = .ok (.aload_n 0, 1) := by decide +kernel
theorem d_X12_waterOf_1 : decode cX12_waterOf 1 = .ok (.getfield 7, 3) := by decide +kernel
theorem d_X12_waterOf_4 : decode cX12_waterOf 4 = .ok (.iload_n 1, 1) := by decide +kernel
theorem d_X12_waterOf_5 : decode cX12_waterOf 5 = .ok (.iaload, 1) := by decide +kernel
theorem d_X12_waterOf_6 : decode cX12_waterOf 6 = .ok (.iconst 4, 1) := by decide +kernel
theorem d_X12_waterOf_7 : decode cX12_waterOf 7 = .ok (.if_icmp .ne 10, 3) := by decide +kernel
theorem d_X12_waterOf_10 : decode cX12_waterOf 10 = .ok (.aload_n 0, 1) := by decide +kernel
theorem d_X12_waterOf_11 : decode cX12_waterOf 11 = .ok (.getfield 16, 3) := by decide +kernel
theorem d_X12_waterOf_14 : decode cX12_waterOf 14 = .ok (.iload_n 1, 1) := by decide +kernel
theorem d_X12_waterOf_15 : decode cX12_waterOf 15 = .ok (.iaload, 1) := by decide +kernel
theorem d_X12_waterOf_16 : decode cX12_waterOf 16 = .ok (.ireturn, 1) := by decide +kernel
theorem d_X12_waterOf_17 : decode cX12_waterOf 17 = .ok (.aload_n 0, 1) := by decide +kernel
theorem d_X12_waterOf_18 : decode cX12_waterOf 18 = .ok (.getfield 7, 3) := by decide +kernel
theorem d_X12_waterOf_21 : decode cX12_waterOf 21 = .ok (.iload_n 1, 1) := by decide +kernel
theorem d_X12_waterOf_22 : decode cX12_waterOf 22 = .ok (.iaload, 1) := by decide +kernel
theorem d_X12_waterOf_23 : decode cX12_waterOf 23 = .ok (.iconst 5, 1) := by decide +kernel
theorem d_X12_waterOf_24 : decode cX12_waterOf 24 = .ok (.if_icmp .ne 16, 3) := by decide +kernel
theorem d_X12_waterOf_27 : decode cX12_waterOf 27 = .ok (.aload_n 0, 1) := by decide +kernel
theorem d_X12_waterOf_28 : decode cX12_waterOf 28 = .ok (.getfield 35, 3) := by decide +kernel
theorem d_X12_waterOf_31 : decode cX12_waterOf 31 = .ok (.iload_n 2, 1) := by decide +kernel
theorem d_X12_waterOf_32 : decode cX12_waterOf 32 = .ok (.baload, 1) := by decide +kernel
theorem d_X12_waterOf_33 : decode cX12_waterOf 33 = .ok (.ifCond .eq 7, 3) := by decide +kernel
theorem d_X12_waterOf_36 : decode cX12_waterOf 36 = .ok (.iconst 0, 1) := by decide +kernel
theorem d_X12_waterOf_37 : decode cX12_waterOf 37 = .ok (.goto 22, 3) := by decide +kernel
theorem d_X12_waterOf_40 : decode cX12_waterOf 40 = .ok (.aload_n 0, 1) := by decide +kernel
theorem d_X12_waterOf_41 : decode cX12_waterOf 41 = .ok (.getfield 16, 3) := by decide +kernel
theorem d_X12_waterOf_44 : decode cX12_waterOf 44 = .ok (.iload_n 1, 1) := by decide +kernel
theorem d_X12_waterOf_45 : decode cX12_waterOf 45 = .ok (.iaload, 1) := by decide +kernel
theorem d_X12_waterOf_46 : decode cX12_waterOf 46 = .ok (.aload_n 0, 1) := by decide +kernel
theorem d_X12_waterOf_47 : decode cX12_waterOf 47 = .ok (.iload_n 2, 1) := by decide +kernel
theorem d_X12_waterOf_48 : decode cX12_waterOf 48 = .ok (.invokevirtual 208, 3) := by decide +kernel
theorem d_X12_waterOf_51 : decode cX12_waterOf 51 = .ok (.iadd, 1) := by decide +kernel
theorem d_X12_waterOf_52 : decode cX12_waterOf 52 = .ok (.aload_n 0, 1) := by decide +kernel
theorem d_X12_waterOf_53 : decode cX12_waterOf 53 = .ok (.iload_n 1, 1) := by decide +kernel
theorem d_X12_waterOf_54 : decode cX12_waterOf 54 = .ok (.iload_n 2, 1) := by decide +kernel
theorem d_X12_waterOf_55 : decode cX12_waterOf 55 = .ok (.invokevirtual 211, 3) := by decide +kernel
theorem d_X12_waterOf_58 : decode cX12_waterOf 58 = .ok (.isub, 1) := by decide +kernel
theorem d_X12_waterOf_59 : decode cX12_waterOf 59 = .ok (.ireturn, 1) := by decide +kernel
theorem d_X12_water_0 : decode cX12_water 0 = .ok (.aload_n 0, 1) := by decide +kernel
theorem d_X12_water_1 : decode cX12_water 1 = .ok (.iload_n 1, 1) := by decide +kernel
theorem d_X12_water_2 : decode cX12_water 2 = .ok (.invokevirtual 202, 3) := by decide +kernel
theorem d_X12_water_5 : decode cX12_water 5 = .ok (.ifCond .eq 19, 3) := by decide +kernel
theorem d_X12_water_8 : decode cX12_water 8 = .ok (.iload_n 2, 1) := by decide +kernel
theorem d_X12_water_9 : decode cX12_water 9 = .ok (.invokestatic 194, 3) := by decide +kernel
theorem d_X12_water_12 : decode cX12_water 12 = .ok (.ifCond .eq 12, 3) := by decide +kernel
theorem d_X12_water_15 : decode cX12_water 15 = .ok (.aload_n 0, 1) := by decide +kernel
theorem d_X12_water_16 : decode cX12_water 16 = .ok (.iload_n 1, 1) := by decide +kernel
theorem d_X12_water_17 : decode cX12_water 17 = .ok (.iload_n 2, 1) := by decide +kernel
theorem d_X12_water_18 : decode cX12_water 18 = .ok (.invokevirtual 215, 3) := by decide +kernel
theorem d_X12_water_21 : decode cX12_water 21 = .ok (.goto 6, 3) := by decide +kernel
theorem d_X12_water_24 : decode cX12_water 24 = .ok (.sipush (-1000), 3) := by decide +kernel
theorem d_X12_water_27 : decode cX12_water 27 = .ok (.ireturn, 1) := by decide +kernel
theorem d_X12_longOf_0 : decode cX12_longOf 0 = .ok (.aload_n 0, 1) := by decide +kernel
theorem d_X12_longOf_1 : decode cX12_longOf 1 = .ok (.getfield 13, 3) := by decide +kernel
theorem d_X12_longOf_4 : decode cX12_longOf 4 = .ok (.iload_n 1, 1) := by decide +kernel
theorem d_X12_longOf_5 : decode cX12_longOf 5 = .ok (.iaload, 1) := by decide +kernel
theorem d_X12_longOf_6 : decode cX12_longOf 6 = .ok (.istore_n 3, 1) := by decide +kernel
theorem d_X12_longOf_7 : decode cX12_longOf 7 = .ok (.aload_n 0, 1) := by decide +kernel
theorem d_X12_longOf_8 : decode cX12_longOf 8 = .ok (.getfield 7, 3) := by decide +kernel
theorem d_X12_longOf_11 : decode cX12_longOf 11 = .ok (.iload_n 1, 1) := by decide +kernel
theorem d_X12_longOf_12 : decode cX12_longOf 12 = .ok (.iaload, 1) := by decide +kernel
theorem d_X12_longOf_13 : decode cX12_longOf 13 = .ok (.iconst 2, 1) := by decide +kernel
theorem d_X12_longOf_14 : decode cX12_longOf 14 = .ok (.if_icmp .ne 22, 3) := by decide +kernel
theorem d_X12_longOf_17 : decode cX12_longOf 17 = .ok (.aload_n 0, 1) := by decide +kernel
theorem d_X12_longOf_18 : decode cX12_longOf 18 = .ok (.aload_n 0, 1) := by decide +kernel
theorem d_X12_longOf_19 : decode cX12_longOf 19 = .ok (.invokevirtual 218, 3) := by decide +kernel
theorem d_X12_longOf_22 : decode cX12_longOf 22 = .ok (.invokevirtual 208, 3) := by decide +kernel
theorem d_X12_longOf_25 : decode cX12_longOf 25 = .ok (.bipush 20, 2) := by decide +kernel
theorem d_X12_longOf_27 : decode cX12_longOf 27 = .ok (.if_icmp .lt 9, 3) := by decide +kernel
theorem d_X12_longOf_30 : decode cX12_longOf 30 = .ok (.iload_n 3, 1) := by decide +kernel
theorem d_X12_longOf_31 : decode cX12_longOf 31 = .ok (.iconst 1, 1) := by decide +kernel
theorem d_X12_longOf_32 : decode cX12_longOf 32 = .ok (.iadd, 1) := by decide +kernel
theorem d_X12_longOf_33 : decode cX12_longOf 33 = .ok (.iconst 2, 1) := by decide +kernel
theorem d_X12_longOf_34 : decode cX12_longOf 34 = .ok (.idiv, 1) := by decide +kernel
theorem d_X12_longOf_35 : decode cX12_longOf 35 = .ok (.istore_n 3, 1) := by decide +kernel
theorem d_X12_longOf_36 : decode cX12_longOf 36 = .ok (.iload_n 3, 1) := by decide +kernel
theorem d_X12_longOf_37 : decode cX12_longOf 37 = .ok (.aload_n 0, 1) := by decide +kernel
theorem d_X12_longOf_38 : decode cX12_longOf 38 = .ok (.getfield 7, 3) := by decide +kernel
theorem d_X12_longOf_41 : decode cX12_longOf 41 = .ok (.iload_n 1, 1) := by decide +kernel
theorem d_X12_longOf_42 : decode cX12_longOf 42 = .ok (.iaload, 1) := by decide +kernel
theorem d_X12_longOf_43 : decode cX12_longOf 43 = .ok (.iconst 4, 1) := by decide +kernel
theorem d_X12_longOf_44 : decode cX12_longOf 44 = .ok (.if_icmp .ne 7, 3) := by decide +kernel
theorem d_X12_longOf_47 : decode cX12_longOf 47 = .ok (.iconst 4, 1) := by decide +kernel
theorem d_X12_longOf_48 : decode cX12_longOf 48 = .ok (.goto 4, 3) := by decide +kernel
theorem d_X12_longOf_51 : decode cX12_longOf 51 = .ok (.iconst 0, 1) := by decide +kernel
theorem d_X12_longOf_52 : decode cX12_longOf 52 = .ok (.iadd, 1) := by decide +kernel
theorem d_X12_longOf_53 : decode cX12_longOf 53 = .ok (.aload_n 0, 1) := by decide +kernel
theorem d_X12_longOf_54 : decode cX12_longOf 54 = .ok (.getfield 7, 3) := by decide +kernel
theorem d_X12_longOf_57 : decode cX12_longOf 57 = .ok (.iload_n 1, 1) := by decide +kernel
theorem d_X12_longOf_58 : decode cX12_longOf 58 = .ok (.iaload, 1) := by decide +kernel
theorem d_X12_longOf_59 : decode cX12_longOf 59 = .ok (.iconst 3, 1) := by decide +kernel
theorem d_X12_longOf_60 : decode cX12_longOf 60 = .ok (.if_icmp .ne 21, 3) := by decide +kernel
theorem d_X12_longOf_63 : decode cX12_longOf 63 = .ok (.iload_n 2, 1) := by decide +kernel
theorem d_X12_longOf_64 : decode cX12_longOf 64 = .ok (.ifCond .eq 17, 3) := by decide +kernel
theorem d_X12_longOf_67 : decode cX12_longOf 67 = .ok (.aload_n 0, 1) := by decide +kernel
theorem d_X12_longOf_68 : decode cX12_longOf 68 = .ok (.getfield 19, 3) := by decide +kernel
theorem d_X12_longOf_71 : decode cX12_longOf 71 = .ok (.iload_n 1, 1) := by decide +kernel
theorem d_X12_longOf_72 : decode cX12_longOf 72 = .ok (.baload, 1) := by decide +kernel
theorem d_X12_longOf_73 : decode cX12_longOf 73 = .ok (.ifCond .ne 8, 3) := by decide +kernel
theorem d_X12_longOf_76 : decode cX12_longOf 76 = .ok (.bipush 8, 2) := by decide +kernel
theorem d_X12_longOf_78 : decode cX12_longOf 78 = .ok (.goto 4, 3) := by decide +kernel
theorem d_X12_longOf_81 : decode cX12_longOf 81 = .ok (.iconst 0, 1) := by decide +kernel
theorem d_X12_longOf_82 : decode cX12_longOf 82 = .ok (.iadd, 1) := by decide +kernel
theorem d_X12_longOf_83 : decode cX12_longOf 83 = .ok (.ireturn, 1) := by decide +kernel
theorem d_X12_stretchTold_0 : decode cX12_stretchTold 0 = .ok (.aload_n 0, 1) := by decide +kernel
theorem d_X12_stretchTold_1 : decode cX12_stretchTold 1 = .ok (.iload_n 1, 1) := by decide +kernel
theorem d_X12_stretchTold_2 : decode cX12_stretchTold 2 = .ok (.invokevirtual 202, 3) := by decide +kernel
theorem d_X12_stretchTold_5 : decode cX12_stretchTold 5 = .ok (.ifCond .ne 7, 3) := by decide +kernel
theorem d_X12_stretchTold_8 : decode cX12_stretchTold 8 = .ok (.sipush (-1000), 3) := by decide +kernel
theorem d_X12_stretchTold_11 : decode cX12_stretchTold 11 = .ok (.ireturn, 1) := by decide +kernel
theorem d_X12_stretchTold_12 : decode cX12_stretchTold 12 = .ok (.iload_n 2, 1) := by decide +kernel
theorem d_X12_stretchTold_13 : decode cX12_stretchTold 13 = .ok (.tableswitch 95 0 5 #[39, 46, 53, 60, 75, 85], 39) := by decide +kernel
theorem d_X12_stretchTold_52 : decode cX12_stretchTold 52 = .ok (.aload_n 0, 1) := by decide +kernel
theorem d_X12_stretchTold_53 : decode cX12_stretchTold 53 = .ok (.getfield 7, 3) := by decide +kernel
theorem d_X12_stretchTold_56 : decode cX12_stretchTold 56 = .ok (.iload_n 1, 1) := by decide +kernel
theorem d_X12_stretchTold_57 : decode cX12_stretchTold 57 = .ok (.iaload, 1) := by decide +kernel
theorem d_X12_stretchTold_58 : decode cX12_stretchTold 58 = .ok (.ireturn, 1) := by decide +kernel
theorem d_X12_stretchTold_59 : decode cX12_stretchTold 59 = .ok (.aload_n 0, 1) := by decide +kernel
theorem d_X12_stretchTold_60 : decode cX12_stretchTold 60 = .ok (.getfield 13, 3) := by decide +kernel
theorem d_X12_stretchTold_63 : decode cX12_stretchTold 63 = .ok (.iload_n 1, 1) := by decide +kernel
theorem d_X12_stretchTold_64 : decode cX12_stretchTold 64 = .ok (.iaload, 1) := by decide +kernel
theorem d_X12_stretchTold_65 : decode cX12_stretchTold 65 = .ok (.ireturn, 1) := by decide +kernel
theorem d_X12_stretchTold_66 : decode cX12_stretchTold 66 = .ok (.aload_n 0, 1) := by decide +kernel
theorem d_X12_stretchTold_67 : decode cX12_stretchTold 67 = .ok (.getfield 16, 3) := by decide +kernel
theorem d_X12_stretchTold_70 : decode cX12_stretchTold 70 = .ok (.iload_n 1, 1) := by decide +kernel
theorem d_X12_stretchTold_71 : decode cX12_stretchTold 71 = .ok (.iaload, 1) := by decide +kernel
theorem d_X12_stretchTold_72 : decode cX12_stretchTold 72 = .ok (.ireturn, 1) := by decide +kernel
theorem d_X12_stretchTold_73 : decode cX12_stretchTold 73 = .ok (.aload_n 0, 1) := by decide +kernel
theorem d_X12_stretchTold_74 : decode cX12_stretchTold 74 = .ok (.getfield 19, 3) := by decide +kernel
theorem d_X12_stretchTold_77 : decode cX12_stretchTold 77 = .ok (.iload_n 1, 1) := by decide +kernel
theorem d_X12_stretchTold_78 : decode cX12_stretchTold 78 = .ok (.baload, 1) := by decide +kernel
theorem d_X12_stretchTold_79 : decode cX12_stretchTold 79 = .ok (.ifCond .eq 7, 3) := by decide +kernel
theorem d_X12_stretchTold_82 : decode cX12_stretchTold 82 = .ok (.iconst 1, 1) := by decide +kernel
theorem d_X12_stretchTold_83 : decode cX12_stretchTold 83 = .ok (.goto 4, 3) := by decide +kernel
theorem d_X12_stretchTold_86 : decode cX12_stretchTold 86 = .ok (.iconst 0, 1) := by decide +kernel
theorem d_X12_stretchTold_87 : decode cX12_stretchTold 87 = .ok (.ireturn, 1) := by decide +kernel
theorem d_X12_stretchTold_88 : decode cX12_stretchTold 88 = .ok (.aload_n 0, 1) := by decide +kernel
theorem d_X12_stretchTold_89 : decode cX12_stretchTold 89 = .ok (.iload_n 1, 1) := by decide +kernel
theorem d_X12_stretchTold_90 : decode cX12_stretchTold 90 = .ok (.aload_n 0, 1) := by decide +kernel
theorem d_X12_stretchTold_91 : decode cX12_stretchTold 91 = .ok (.invokevirtual 218, 3) := by decide +kernel
theorem d_X12_stretchTold_94 : decode cX12_stretchTold 94 = .ok (.invokevirtual 211, 3) := by decide +kernel
theorem d_X12_stretchTold_97 : decode cX12_stretchTold 97 = .ok (.ireturn, 1) := by decide +kernel
theorem d_X12_stretchTold_98 : decode cX12_stretchTold 98 = .ok (.aload_n 0, 1) := by decide +kernel
theorem d_X12_stretchTold_99 : decode cX12_stretchTold 99 = .ok (.iload_n 1, 1) := by decide +kernel
theorem d_X12_stretchTold_100 : decode cX12_stretchTold 100 = .ok (.aload_n 0, 1) := by decide +kernel
theorem d_X12_stretchTold_101 : decode cX12_stretchTold 101 = .ok (.invokevirtual 221, 3) := by decide +kernel
theorem d_X12_stretchTold_104 : decode cX12_stretchTold 104 = .ok (.invokevirtual 225, 3) := by decide +kernel
theorem d_X12_stretchTold_107 : decode cX12_stretchTold 107 = .ok (.ireturn, 1) := by decide +kernel
theorem d_X12_stretchTold_108 : decode cX12_stretchTold 108 = .ok (.sipush (-1000), 3) := by decide +kernel
theorem d_X12_stretchTold_111 : decode cX12_stretchTold 111 = .ok (.ireturn, 1) := by decide +kernel
theorem d_X12_boat_0 : decode cX12_boat 0 = .ok (.aload_n 0, 1) := by decide +kernel
theorem d_X12_boat_1 : decode cX12_boat 1 = .ok (.iload_n 1, 1) := by decide +kernel
theorem d_X12_boat_2 : decode cX12_boat 2 = .ok (.invokevirtual 229, 3) := by decide +kernel
theorem d_X12_boat_5 : decode cX12_boat 5 = .ok (.ifCond .eq 35, 3) := by decide +kernel
theorem d_X12_boat_8 : decode cX12_boat 8 = .ok (.iload_n 2, 1) := by decide +kernel
theorem d_X12_boat_9 : decode cX12_boat 9 = .ok (.iconst 1, 1) := by decide +kernel
theorem d_X12_boat_10 : decode cX12_boat 10 = .ok (.bipush 30, 2) := by decide +kernel
theorem d_X12_boat_12 : decode cX12_boat 12 = .ok (.invokestatic 174, 3) := by decide +kernel
theorem d_X12_boat_15 : decode cX12_boat 15 = .ok (.ifCond .eq 25, 3) := by decide +kernel
theorem d_X12_boat_18 : decode cX12_boat 18 = .ok (.iload_n 3, 1) := by decide +kernel
theorem d_X12_boat_19 : decode cX12_boat 19 = .ok (.iconst 1, 1) := by decide +kernel
theorem d_X12_boat_20 : decode cX12_boat 20 = .ok (.sipush 999, 3) := by decide +kernel
theorem d_X12_boat_23 : decode cX12_boat 23 = .ok (.invokestatic 174, 3) := by decide +kernel
theorem d_X12_boat_26 : decode cX12_boat 26 = .ok (.ifCond .eq 14, 3) := by decide +kernel
theorem d_X12_boat_29 : decode cX12_boat 29 = .ok (.iload 4, 2) := by decide +kernel
theorem d_X12_boat_31 : decode cX12_boat 31 = .ok (.iconst 1, 1) := by decide +kernel
theorem d_X12_boat_32 : decode cX12_boat 32 = .ok (.bipush 99, 2) := by decide +kernel
theorem d_X12_boat_34 : decode cX12_boat 34 = .ok (.invokestatic 174, 3) := by decide +kernel
theorem d_X12_boat_37 : decode cX12_boat 37 = .ok (.ifCond .ne 9, 3) := by decide +kernel
theorem d_X12_boat_40 : decode cX12_boat 40 = .ok (.aload_n 0, 1) := by decide +kernel
theorem d_X12_boat_41 : decode cX12_boat 41 = .ok (.iconst 1, 1) := by decide +kernel
theorem d_X12_boat_42 : decode cX12_boat 42 = .ok (.invokevirtual 187, 3) := by decide +kernel
theorem d_X12_boat_45 : decode cX12_boat 45 = .ok (.ireturn, 1) := by decide +kernel
theorem d_X12_boat_46 : decode cX12_boat 46 = .ok (.aload_n 0, 1) := by decide +kernel
theorem d_X12_boat_47 : decode cX12_boat 47 = .ok (.getfield 178, 3) := by decide +kernel
theorem d_X12_boat_50 : decode cX12_boat 50 = .ok (.iconst 5, 1) := by decide +kernel
theorem d_X12_boat_51 : decode cX12_boat 51 = .ok (.if_icmp .ne 9, 3) := by decide +kernel
theorem d_X12_boat_54 : decode cX12_boat 54 = .ok (.aload_n 0, 1) := by decide +kernel
theorem d_X12_boat_55 : decode cX12_boat 55 = .ok (.iconst 2, 1) := by decide +kernel
theorem d_X12_boat_56 : decode cX12_boat 56 = .ok (.invokevirtual 187, 3) := by decide +kernel
theorem d_X12_boat_59 : decode cX12_boat 59 = .ok (.ireturn, 1) := by decide +kernel
theorem d_X12_boat_60 : decode cX12_boat 60 = .ok (.aload_n 0, 1) := by decide +kernel
theorem d_X12_boat_61 : decode cX12_boat 61 = .ok (.getfield 38, 3) := by decide +kernel
theorem d_X12_boat_64 : decode cX12_boat 64 = .ok (.aload_n 0, 1) := by decide +kernel
theorem d_X12_boat_65 : decode cX12_boat 65 = .ok (.getfield 178, 3) := by decide +kernel
theorem d_X12_boat_68 : decode cX12_boat 68 = .ok (.iload_n 2, 1) := by decide +kernel
theorem d_X12_boat_69 : decode cX12_boat 69 = .ok (.iastore, 1) := by decide +kernel
theorem d_X12_boat_70 : decode cX12_boat 70 = .ok (.aload_n 0, 1) := by decide +kernel
theorem d_X12_boat_71 : decode cX12_boat 71 = .ok (.getfield 41, 3) := by decide +kernel
theorem d_X12_boat_74 : decode cX12_boat 74 = .ok (.aload_n 0, 1) := by decide +kernel
theorem d_X12_boat_75 : decode cX12_boat 75 = .ok (.getfield 178, 3) := by decide +kernel
theorem d_X12_boat_78 : decode cX12_boat 78 = .ok (.iload_n 3, 1) := by decide +kernel
theorem d_X12_boat_79 : decode cX12_boat 79 = .ok (.iastore, 1) := by decide +kernel
theorem d_X12_boat_80 : decode cX12_boat 80 = .ok (.aload_n 0, 1) := by decide +kernel
theorem d_X12_boat_81 : decode cX12_boat 81 = .ok (.getfield 44, 3) := by decide +kernel
theorem d_X12_boat_84 : decode cX12_boat 84 = .ok (.aload_n 0, 1) := by decide +kernel
theorem d_X12_boat_85 : decode cX12_boat 85 = .ok (.getfield 178, 3) := by decide +kernel
theorem d_X12_boat_88 : decode cX12_boat 88 = .ok (.iload 4, 2) := by decide +kernel
theorem d_X12_boat_90 : decode cX12_boat 90 = .ok (.iastore, 1) := by decide +kernel
theorem d_X12_boat_91 : decode cX12_boat 91 = .ok (.aload_n 0, 1) := by decide +kernel
theorem d_X12_boat_92 : decode cX12_boat 92 = .ok (.getfield 47, 3) := by decide +kernel
theorem d_X12_boat_95 : decode cX12_boat 95 = .ok (.aload_n 0, 1) := by decide +kernel
theorem d_X12_boat_96 : decode cX12_boat 96 = .ok (.getfield 178, 3) := by decide +kernel
theorem d_X12_boat_99 : decode cX12_boat 99 = .ok (.iconst 0, 1) := by decide +kernel
theorem d_X12_boat_100 : decode cX12_boat 100 = .ok (.iastore, 1) := by decide +kernel
theorem d_X12_boat_101 : decode cX12_boat 101 = .ok (.aload_n 0, 1) := by decide +kernel
theorem d_X12_boat_102 : decode cX12_boat 102 = .ok (.getfield 50, 3) := by decide +kernel
theorem d_X12_boat_105 : decode cX12_boat 105 = .ok (.aload_n 0, 1) := by decide +kernel
theorem d_X12_boat_106 : decode cX12_boat 106 = .ok (.getfield 178, 3) := by decide +kernel
theorem d_X12_boat_109 : decode cX12_boat 109 = .ok (.iload_n 1, 1) := by decide +kernel
theorem d_X12_boat_110 : decode cX12_boat 110 = .ok (.iastore, 1) := by decide +kernel
theorem d_X12_boat_111 : decode cX12_boat 111 = .ok (.aload_n 0, 1) := by decide +kernel
theorem d_X12_boat_112 : decode cX12_boat 112 = .ok (.getfield 53, 3) := by decide +kernel
theorem d_X12_boat_115 : decode cX12_boat 115 = .ok (.aload_n 0, 1) := by decide +kernel
theorem d_X12_boat_116 : decode cX12_boat 116 = .ok (.getfield 178, 3) := by decide +kernel
theorem d_X12_boat_119 : decode cX12_boat 119 = .ok (.iload_n 1, 1) := by decide +kernel
theorem d_X12_boat_120 : decode cX12_boat 120 = .ok (.iastore, 1) := by decide +kernel
theorem d_X12_boat_121 : decode cX12_boat 121 = .ok (.aload_n 0, 1) := by decide +kernel
theorem d_X12_boat_122 : decode cX12_boat 122 = .ok (.getfield 56, 3) := by decide +kernel
theorem d_X12_boat_125 : decode cX12_boat 125 = .ok (.aload_n 0, 1) := by decide +kernel
theorem d_X12_boat_126 : decode cX12_boat 126 = .ok (.getfield 178, 3) := by decide +kernel
theorem d_X12_boat_129 : decode cX12_boat 129 = .ok (.iconst 0, 1) := by decide +kernel
theorem d_X12_boat_130 : decode cX12_boat 130 = .ok (.iastore, 1) := by decide +kernel
theorem d_X12_boat_131 : decode cX12_boat 131 = .ok (.aload_n 0, 1) := by decide +kernel
theorem d_X12_boat_132 : decode cX12_boat 132 = .ok (.getfield 59, 3) := by decide +kernel
theorem d_X12_boat_135 : decode cX12_boat 135 = .ok (.aload_n 0, 1) := by decide +kernel
theorem d_X12_boat_136 : decode cX12_boat 136 = .ok (.getfield 178, 3) := by decide +kernel
theorem d_X12_boat_139 : decode cX12_boat 139 = .ok (.iload 4, 2) := by decide +kernel
theorem d_X12_boat_141 : decode cX12_boat 141 = .ok (.iastore, 1) := by decide +kernel
theorem d_X12_boat_142 : decode cX12_boat 142 = .ok (.iconst 0, 1) := by decide +kernel
theorem d_X12_boat_143 : decode cX12_boat 143 = .ok (.istore 5, 2) := by decide +kernel
theorem d_X12_boat_145 : decode cX12_boat 145 = .ok (.iload 5, 2) := by decide +kernel
theorem d_X12_boat_147 : decode cX12_boat 147 = .ok (.bipush 10, 2) := by decide +kernel
theorem d_X12_boat_149 : decode cX12_boat 149 = .ok (.if_icmp .ge 25, 3) := by decide +kernel
theorem d_X12_boat_152 : decode cX12_boat 152 = .ok (.aload_n 0, 1) := by decide +kernel
theorem d_X12_boat_153 : decode cX12_boat 153 = .ok (.getfield 65, 3) := by decide +kernel
theorem d_X12_boat_156 : decode cX12_boat 156 = .ok (.bipush 10, 2) := by decide +kernel
theorem d_X12_boat_158 : decode cX12_boat 158 = .ok (.aload_n 0, 1) := by decide +kernel
theorem d_X12_boat_159 : decode cX12_boat 159 = .ok (.getfield 178, 3) := by decide +kernel
theorem d_X12_boat_162 : decode cX12_boat 162 = .ok (.imul, 1) := by decide +kernel
theorem d_X12_boat_163 : decode cX12_boat 163 = .ok (.iload 5, 2) := by decide +kernel
theorem d_X12_boat_165 : decode cX12_boat 165 = .ok (.iadd, 1) := by decide +kernel
theorem d_X12_boat_166 : decode cX12_boat 166 = .ok (.iconst (-1), 1) := by decide +kernel
theorem d_X12_boat_167 : decode cX12_boat 167 = .ok (.iastore, 1) := by decide +kernel
theorem d_X12_boat_168 : decode cX12_boat 168 = .ok (.iinc 5 1, 3) := by decide +kernel
theorem d_X12_boat_171 : decode cX12_boat 171 = .ok (.goto (-26), 3) := by decide +kernel
theorem d_X12_boat_174 : decode cX12_boat 174 = .ok (.aload_n 0, 1) := by decide +kernel
theorem d_X12_boat_175 : decode cX12_boat 175 = .ok (.dup, 1) := by decide +kernel
theorem d_X12_boat_176 : decode cX12_boat 176 = .ok (.getfield 178, 3) := by decide +kernel
theorem d_X12_boat_179 : decode cX12_boat 179 = .ok (.iconst 1, 1) := by decide +kernel
theorem d_X12_boat_180 : decode cX12_boat 180 = .ok (.iadd, 1) := by decide +kernel
theorem d_X12_boat_181 : decode cX12_boat 181 = .ok (.putfield 178, 3) := by decide +kernel
theorem d_X12_boat_184 : decode cX12_boat 184 = .ok (.aload_n 0, 1) := by decide +kernel
theorem d_X12_boat_185 : decode cX12_boat 185 = .ok (.aload_n 0, 1) := by decide +kernel
theorem d_X12_boat_186 : decode cX12_boat 186 = .ok (.getfield 178, 3) := by decide +kernel
theorem d_X12_boat_189 : decode cX12_boat 189 = .ok (.iconst 1, 1) := by decide +kernel
theorem d_X12_boat_190 : decode cX12_boat 190 = .ok (.isub, 1) := by decide +kernel
theorem d_X12_boat_191 : decode cX12_boat 191 = .ok (.invokevirtual 191, 3) := by decide +kernel
theorem d_X12_boat_194 : decode cX12_boat 194 = .ok (.ireturn, 1) := by decide +kernel
theorem d_X12_aboard_0 : decode cX12_aboard 0 = .ok (.iconst 0, 1) := by decide +kernel
theorem d_X12_aboard_1 : decode cX12_aboard 1 = .ok (.istore_n 2, 1) := by decide +kernel
theorem d_X12_aboard_2 : decode cX12_aboard 2 = .ok (.iconst 0, 1) := by decide +kernel
theorem d_X12_aboard_3 : decode cX12_aboard 3 = .ok (.istore_n 3, 1) := by decide +kernel
theorem d_X12_aboard_4 : decode cX12_aboard 4 = .ok (.iload_n 3, 1) := by decide +kernel
theorem d_X12_aboard_5 : decode cX12_aboard 5 = .ok (.aload_n 0, 1) := by decide +kernel
theorem d_X12_aboard_6 : decode cX12_aboard 6 = .ok (.getfield 181, 3) := by decide +kernel
theorem d_X12_aboard_9 : decode cX12_aboard 9 = .ok (.if_icmp .ge 42, 3) := by decide +kernel
theorem d_X12_aboard_12 : decode cX12_aboard 12 = .ok (.iload_n 2, 1) := by decide +kernel
theorem d_X12_aboard_13 : decode cX12_aboard 13 = .ok (.aload_n 0, 1) := by decide +kernel
theorem d_X12_aboard_14 : decode cX12_aboard 14 = .ok (.getfield 80, 3) := by decide +kernel
theorem d_X12_aboard_17 : decode cX12_aboard 17 = .ok (.iload_n 3, 1) := by decide +kernel
theorem d_X12_aboard_18 : decode cX12_aboard 18 = .ok (.iaload, 1) := by decide +kernel
theorem d_X12_aboard_19 : decode cX12_aboard 19 = .ok (.iconst 1, 1) := by decide +kernel
theorem d_X12_aboard_20 : decode cX12_aboard 20 = .ok (.if_icmp .ne 22, 3) := by decide +kernel
theorem d_X12_aboard_23 : decode cX12_aboard 23 = .ok (.aload_n 0, 1) := by decide +kernel
theorem d_X12_aboard_24 : decode cX12_aboard 24 = .ok (.getfield 83, 3) := by decide +kernel
theorem d_X12_aboard_27 : decode cX12_aboard 27 = .ok (.iload_n 3, 1) := by decide +kernel
theorem d_X12_aboard_28 : decode cX12_aboard 28 = .ok (.iaload, 1) := by decide +kernel
theorem d_X12_aboard_29 : decode cX12_aboard 29 = .ok (.iload_n 1, 1) := by decide +kernel
theorem d_X12_aboard_30 : decode cX12_aboard 30 = .ok (.if_icmp .ne 12, 3) := by decide +kernel
theorem d_X12_aboard_33 : decode cX12_aboard 33 = .ok (.aload_n 0, 1) := by decide +kernel
theorem d_X12_aboard_34 : decode cX12_aboard 34 = .ok (.getfield 74, 3) := by decide +kernel
theorem d_X12_aboard_37 : decode cX12_aboard 37 = .ok (.iload_n 3, 1) := by decide +kernel
theorem d_X12_aboard_38 : decode cX12_aboard 38 = .ok (.iaload, 1) := by decide +kernel
theorem d_X12_aboard_39 : decode cX12_aboard 39 = .ok (.goto 4, 3) := by decide +kernel
theorem d_X12_aboard_42 : decode cX12_aboard 42 = .ok (.iconst 0, 1) := by decide +kernel
theorem d_X12_aboard_43 : decode cX12_aboard 43 = .ok (.iadd, 1) := by decide +kernel
theorem d_X12_aboard_44 : decode cX12_aboard 44 = .ok (.istore_n 2, 1) := by decide +kernel
theorem d_X12_aboard_45 : decode cX12_aboard 45 = .ok (.iinc 3 1, 3) := by decide +kernel
theorem d_X12_aboard_48 : decode cX12_aboard 48 = .ok (.goto (-44), 3) := by decide +kernel
theorem d_X12_aboard_51 : decode cX12_aboard 51 = .ok (.iload_n 2, 1) := by decide +kernel
theorem d_X12_aboard_52 : decode cX12_aboard 52 = .ok (.ireturn, 1) := by decide +kernel
theorem d_X12_draught_0 : decode cX12_draught 0 = .ok (.aload_n 0, 1) := by decide +kernel
theorem d_X12_draught_1 : decode cX12_draught 1 = .ok (.getfield 38, 3) := by decide +kernel
theorem d_X12_draught_4 : decode cX12_draught 4 = .ok (.iload_n 1, 1) := by decide +kernel
theorem d_X12_draught_5 : decode cX12_draught 5 = .ok (.iaload, 1) := by decide +kernel
theorem d_X12_draught_6 : decode cX12_draught 6 = .ok (.aload_n 0, 1) := by decide +kernel
theorem d_X12_draught_7 : decode cX12_draught 7 = .ok (.iload_n 1, 1) := by decide +kernel
theorem d_X12_draught_8 : decode cX12_draught 8 = .ok (.invokevirtual 232, 3) := by decide +kernel
theorem d_X12_draught_11 : decode cX12_draught 11 = .ok (.bipush 10, 2) := by decide +kernel
theorem d_X12_draught_13 : decode cX12_draught 13 = .ok (.idiv, 1) := by decide +kernel
theorem d_X12_draught_14 : decode cX12_draught 14 = .ok (.iadd, 1) := by decide +kernel
theorem d_X12_draught_15 : decode cX12_draught 15 = .ok (.ireturn, 1) := by decide +kernel
theorem d_X12_bale_0 : decode cX12_bale 0 = .ok (.aload_n 0, 1) := by decide +kernel
theorem d_X12_bale_1 : decode cX12_bale 1 = .ok (.iload_n 1, 1) := by decide +kernel
theorem d_X12_bale_2 : decode cX12_bale 2 = .ok (.invokevirtual 229, 3) := by decide +kernel
theorem d_X12_bale_5 : decode cX12_bale 5 = .ok (.ifCond .eq 39, 3) := by decide +kernel
theorem d_X12_bale_8 : decode cX12_bale 8 = .ok (.aload_n 0, 1) := by decide +kernel
theorem d_X12_bale_9 : decode cX12_bale 9 = .ok (.iload_n 2, 1) := by decide +kernel
theorem d_X12_bale_10 : decode cX12_bale 10 = .ok (.invokevirtual 229, 3) := by decide +kernel
theorem d_X12_bale_13 : decode cX12_bale 13 = .ok (.ifCond .eq 31, 3) := by decide +kernel
theorem d_X12_bale_16 : decode cX12_bale 16 = .ok (.iload_n 1, 1) := by decide +kernel
theorem d_X12_bale_17 : decode cX12_bale 17 = .ok (.iload_n 2, 1) := by decide +kernel
theorem d_X12_bale_18 : decode cX12_bale 18 = .ok (.if_icmp .eq 26, 3) := by decide +kernel
theorem d_X12_bale_21 : decode cX12_bale 21 = .ok (.iload_n 3, 1) := by decide +kernel
theorem d_X12_bale_22 : decode cX12_bale 22 = .ok (.iconst 1, 1) := by decide +kernel
theorem d_X12_bale_23 : decode cX12_bale 23 = .ok (.sipush 200, 3) := by decide +kernel
theorem d_X12_bale_26 : decode cX12_bale 26 = .ok (.invokestatic 174, 3) := by decide +kernel
theorem d_X12_bale_29 : decode cX12_bale 29 = .ok (.ifCond .eq 15, 3) := by decide +kernel
theorem d_X12_bale_32 : decode cX12_bale 32 = .ok (.iload 4, 2) := by decide +kernel
theorem d_X12_bale_34 : decode cX12_bale 34 = .ok (.iconst 0, 1) := by decide +kernel
theorem d_X12_bale_35 : decode cX12_bale 35 = .ok (.sipush 999, 3) := by decide +kernel
theorem d_X12_bale_38 : decode cX12_bale 38 = .ok (.invokestatic 174, 3) := by decide +kernel
theorem d_X12_bale_41 : decode cX12_bale 41 = .ok (.ifCond .ne 9, 3) := by decide +kernel
theorem d_X12_bale_44 : decode cX12_bale 44 = .ok (.aload_n 0, 1) := by decide +kernel
theorem d_X12_bale_45 : decode cX12_bale 45 = .ok (.iconst 1, 1) := by decide +kernel
theorem d_X12_bale_46 : decode cX12_bale 46 = .ok (.invokevirtual 187, 3) := by decide +kernel
theorem d_X12_bale_49 : decode cX12_bale 49 = .ok (.ireturn, 1) := by decide +kernel
theorem d_X12_bale_50 : decode cX12_bale 50 = .ok (.aload_n 0, 1) := by decide +kernel
theorem d_X12_bale_51 : decode cX12_bale 51 = .ok (.getfield 181, 3) := by decide +kernel
theorem d_X12_bale_54 : decode cX12_bale 54 = .ok (.bipush 12, 2) := by decide +kernel
theorem d_X12_bale_56 : decode cX12_bale 56 = .ok (.if_icmp .ne 9, 3) := by decide +kernel
theorem d_X12_bale_59 : decode cX12_bale 59 = .ok (.aload_n 0, 1) := by decide +kernel
theorem d_X12_bale_60 : decode cX12_bale 60 = .ok (.iconst 2, 1) := by decide +kernel
theorem d_X12_bale_61 : decode cX12_bale 61 = .ok (.invokevirtual 187, 3) := by decide +kernel
theorem d_X12_bale_64 : decode cX12_bale 64 = .ok (.ireturn, 1) := by decide +kernel
theorem d_X12_bale_65 : decode cX12_bale 65 = .ok (.aload_n 0, 1) := by decide +kernel
theorem d_X12_bale_66 : decode cX12_bale 66 = .ok (.getfield 71, 3) := by decide +kernel
theorem d_X12_bale_69 : decode cX12_bale 69 = .ok (.aload_n 0, 1) := by decide +kernel
theorem d_X12_bale_70 : decode cX12_bale 70 = .ok (.getfield 181, 3) := by decide +kernel
theorem d_X12_bale_73 : decode cX12_bale 73 = .ok (.iload_n 2, 1) := by decide +kernel
theorem d_X12_bale_74 : decode cX12_bale 74 = .ok (.iastore, 1) := by decide +kernel
theorem d_X12_bale_75 : decode cX12_bale 75 = .ok (.aload_n 0, 1) := by decide +kernel
theorem d_X12_bale_76 : decode cX12_bale 76 = .ok (.getfield 74, 3) := by decide +kernel
theorem d_X12_bale_79 : decode cX12_bale 79 = .ok (.aload_n 0, 1) := by decide +kernel
theorem d_X12_bale_80 : decode cX12_bale 80 = .ok (.getfield 181, 3) := by decide +kernel
theorem d_X12_bale_83 : decode cX12_bale 83 = .ok (.iload_n 3, 1) := by decide +kernel
theorem d_X12_bale_84 : decode cX12_bale 84 = .ok (.iastore, 1) := by decide +kernel
theorem d_X12_bale_85 : decode cX12_bale 85 = .ok (.aload_n 0, 1) := by decide +kernel
theorem d_X12_bale_86 : decode cX12_bale 86 = .ok (.getfield 77, 3) := by decide +kernel
theorem d_X12_bale_89 : decode cX12_bale 89 = .ok (.aload_n 0, 1) := by decide +kernel
theorem d_X12_bale_90 : decode cX12_bale 90 = .ok (.getfield 181, 3) := by decide +kernel
theorem d_X12_bale_93 : decode cX12_bale 93 = .ok (.iload 4, 2) := by decide +kernel
theorem d_X12_bale_95 : decode cX12_bale 95 = .ok (.iastore, 1) := by decide +kernel
theorem d_X12_bale_96 : decode cX12_bale 96 = .ok (.aload_n 0, 1) := by decide +kernel
theorem d_X12_bale_97 : decode cX12_bale 97 = .ok (.getfield 80, 3) := by decide +kernel
theorem d_X12_bale_100 : decode cX12_bale 100 = .ok (.aload_n 0, 1) := by decide +kernel
theorem d_X12_bale_101 : decode cX12_bale 101 = .ok (.getfield 181, 3) := by decide +kernel
theorem d_X12_bale_104 : decode cX12_bale 104 = .ok (.iconst 0, 1) := by decide +kernel
theorem d_X12_bale_105 : decode cX12_bale 105 = .ok (.iastore, 1) := by decide +kernel
theorem d_X12_bale_106 : decode cX12_bale 106 = .ok (.aload_n 0, 1) := by decide +kernel
theorem d_X12_bale_107 : decode cX12_bale 107 = .ok (.getfield 83, 3) := by decide +kernel
theorem d_X12_bale_110 : decode cX12_bale 110 = .ok (.aload_n 0, 1) := by decide +kernel
theorem d_X12_bale_111 : decode cX12_bale 111 = .ok (.getfield 181, 3) := by decide +kernel
theorem d_X12_bale_114 : decode cX12_bale 114 = .ok (.iload_n 1, 1) := by decide +kernel
theorem d_X12_bale_115 : decode cX12_bale 115 = .ok (.iastore, 1) := by decide +kernel
theorem d_X12_bale_116 : decode cX12_bale 116 = .ok (.aload_n 0, 1) := by decide +kernel
theorem d_X12_bale_117 : decode cX12_bale 117 = .ok (.dup, 1) := by decide +kernel
theorem d_X12_bale_118 : decode cX12_bale 118 = .ok (.getfield 181, 3) := by decide +kernel
theorem d_X12_bale_121 : decode cX12_bale 121 = .ok (.iconst 1, 1) := by decide +kernel
theorem d_X12_bale_122 : decode cX12_bale 122 = .ok (.iadd, 1) := by decide +kernel
theorem d_X12_bale_123 : decode cX12_bale 123 = .ok (.putfield 181, 3) := by decide +kernel
theorem d_X12_bale_126 : decode cX12_bale 126 = .ok (.aload_n 0, 1) := by decide +kernel
theorem d_X12_bale_127 : decode cX12_bale 127 = .ok (.aload_n 0, 1) := by decide +kernel
theorem d_X12_bale_128 : decode cX12_bale 128 = .ok (.getfield 181, 3) := by decide +kernel
theorem d_X12_bale_131 : decode cX12_bale 131 = .ok (.iconst 1, 1) := by decide +kernel
theorem d_X12_bale_132 : decode cX12_bale 132 = .ok (.isub, 1) := by decide +kernel
theorem d_X12_bale_133 : decode cX12_bale 133 = .ok (.invokevirtual 191, 3) := by decide +kernel
theorem d_X12_bale_136 : decode cX12_bale 136 = .ok (.ireturn, 1) := by decide +kernel
theorem d_X12_lade_0 : decode cX12_lade 0 = .ok (.aload_n 0, 1) := by decide +kernel
theorem d_X12_lade_1 : decode cX12_lade 1 = .ok (.iload_n 1, 1) := by decide +kernel
theorem d_X12_lade_2 : decode cX12_lade 2 = .ok (.invokevirtual 235, 3) := by decide +kernel
theorem d_X12_lade_5 : decode cX12_lade 5 = .ok (.ifCond .eq 11, 3) := by decide +kernel
theorem d_X12_lade_8 : decode cX12_lade 8 = .ok (.aload_n 0, 1) := by decide +kernel
theorem d_X12_lade_9 : decode cX12_lade 9 = .ok (.iload_n 2, 1) := by decide +kernel
theorem d_X12_lade_10 : decode cX12_lade 10 = .ok (.invokevirtual 238, 3) := by decide +kernel
theorem d_X12_lade_13 : decode cX12_lade 13 = .ok (.ifCond .ne 9, 3) := by decide +kernel
theorem d_X12_lade_16 : decode cX12_lade 16 = .ok (.aload_n 0, 1) := by decide +kernel
theorem d_X12_lade_17 : decode cX12_lade 17 = .ok (.iconst 1, 1) := by decide +kernel
theorem d_X12_lade_18 : decode cX12_lade 18 = .ok (.invokevirtual 187, 3) := by decide +kernel
theorem d_X12_lade_21 : decode cX12_lade 21 = .ok (.ireturn, 1) := by decide +kernel
theorem d_X12_lade_22 : decode cX12_lade 22 = .ok (.aload_n 0, 1) := by decide +kernel
theorem d_X12_lade_23 : decode cX12_lade 23 = .ok (.getfield 80, 3) := by decide +kernel
theorem d_X12_lade_26 : decode cX12_lade 26 = .ok (.iload_n 1, 1) := by decide +kernel
theorem d_X12_lade_27 : decode cX12_lade 27 = .ok (.iaload, 1) := by decide +kernel
theorem d_X12_lade_28 : decode cX12_lade 28 = .ok (.ifCond .ne 48, 3) := by decide +kernel
theorem d_X12_lade_31 : decode cX12_lade 31 = .ok (.aload_n 0, 1) := by decide +kernel
theorem d_X12_lade_32 : decode cX12_lade 32 = .ok (.getfield 47, 3) := by decide +kernel
theorem d_X12_lade_35 : decode cX12_lade 35 = .ok (.iload_n 2, 1) := by decide +kernel
theorem d_X12_lade_36 : decode cX12_lade 36 = .ok (.iaload, 1) := by decide +kernel
theorem d_X12_lade_37 : decode cX12_lade 37 = .ok (.ifCond .ne 39, 3) := by decide +kernel
theorem d_X12_lade_40 : decode cX12_lade 40 = .ok (.aload_n 0, 1) := by decide +kernel
theorem d_X12_lade_41 : decode cX12_lade 41 = .ok (.getfield 83, 3) := by decide +kernel
theorem d_X12_lade_44 : decode cX12_lade 44 = .ok (.iload_n 1, 1) := by decide +kernel
theorem d_X12_lade_45 : decode cX12_lade 45 = .ok (.iaload, 1) := by decide +kernel
theorem d_X12_lade_46 : decode cX12_lade 46 = .ok (.aload_n 0, 1) := by decide +kernel
theorem d_X12_lade_47 : decode cX12_lade 47 = .ok (.getfield 50, 3) := by decide +kernel
theorem d_X12_lade_50 : decode cX12_lade 50 = .ok (.iload_n 2, 1) := by decide +kernel
theorem d_X12_lade_51 : decode cX12_lade 51 = .ok (.iaload, 1) := by decide +kernel
theorem d_X12_lade_52 : decode cX12_lade 52 = .ok (.if_icmp .ne 24, 3) := by decide +kernel
theorem d_X12_lade_55 : decode cX12_lade 55 = .ok (.aload_n 0, 1) := by decide +kernel
theorem d_X12_lade_56 : decode cX12_lade 56 = .ok (.iload_n 2, 1) := by decide +kernel
theorem d_X12_lade_57 : decode cX12_lade 57 = .ok (.invokevirtual 232, 3) := by decide +kernel
theorem d_X12_lade_60 : decode cX12_lade 60 = .ok (.aload_n 0, 1) := by decide +kernel
theorem d_X12_lade_61 : decode cX12_lade 61 = .ok (.getfield 74, 3) := by decide +kernel
theorem d_X12_lade_64 : decode cX12_lade 64 = .ok (.iload_n 1, 1) := by decide +kernel
theorem d_X12_lade_65 : decode cX12_lade 65 = .ok (.iaload, 1) := by decide +kernel
theorem d_X12_lade_66 : decode cX12_lade 66 = .ok (.iadd, 1) := by decide +kernel
theorem d_X12_lade_67 : decode cX12_lade 67 = .ok (.aload_n 0, 1) := by decide +kernel
theorem d_X12_lade_68 : decode cX12_lade 68 = .ok (.getfield 41, 3) := by decide +kernel
theorem d_X12_lade_71 : decode cX12_lade 71 = .ok (.iload_n 2, 1) := by decide +kernel
theorem d_X12_lade_72 : decode cX12_lade 72 = .ok (.iaload, 1) := by decide +kernel
theorem d_X12_lade_73 : decode cX12_lade 73 = .ok (.if_icmp .le 9, 3) := by decide +kernel
theorem d_X12_lade_76 : decode cX12_lade 76 = .ok (.aload_n 0, 1) := by decide +kernel
theorem d_X12_lade_77 : decode cX12_lade 77 = .ok (.iconst 3, 1) := by decide +kernel
theorem d_X12_lade_78 : decode cX12_lade 78 = .ok (.invokevirtual 187, 3) := by decide +kernel
theorem d_X12_lade_81 : decode cX12_lade 81 = .ok (.ireturn, 1) := by decide +kernel
theorem d_X12_lade_82 : decode cX12_lade 82 = .ok (.aload_n 0, 1) := by decide +kernel
theorem d_X12_lade_83 : decode cX12_lade 83 = .ok (.getfield 80, 3) := by decide +kernel
theorem d_X12_lade_86 : decode cX12_lade 86 = .ok (.iload_n 1, 1) := by decide +kernel
theorem d_X12_lade_87 : decode cX12_lade 87 = .ok (.iconst 1, 1) := by decide +kernel
theorem d_X12_lade_88 : decode cX12_lade 88 = .ok (.iastore, 1) := by decide +kernel
theorem d_X12_lade_89 : decode cX12_lade 89 = .ok (.aload_n 0, 1) := by decide +kernel
theorem d_X12_lade_90 : decode cX12_lade 90 = .ok (.getfield 83, 3) := by decide +kernel
theorem d_X12_lade_93 : decode cX12_lade 93 = .ok (.iload_n 1, 1) := by decide +kernel
theorem d_X12_lade_94 : decode cX12_lade 94 = .ok (.iload_n 2, 1) := by decide +kernel
theorem d_X12_lade_95 : decode cX12_lade 95 = .ok (.iastore, 1) := by decide +kernel
theorem d_X12_lade_96 : decode cX12_lade 96 = .ok (.aload_n 0, 1) := by decide +kernel
theorem d_X12_lade_97 : decode cX12_lade 97 = .ok (.aload_n 0, 1) := by decide +kernel
theorem d_X12_lade_98 : decode cX12_lade 98 = .ok (.iload_n 2, 1) := by decide +kernel
theorem d_X12_lade_99 : decode cX12_lade 99 = .ok (.invokevirtual 241, 3) := by decide +kernel
theorem d_X12_lade_102 : decode cX12_lade 102 = .ok (.invokevirtual 191, 3) := by decide +kernel
theorem d_X12_lade_105 : decode cX12_lade 105 = .ok (.ireturn, 1) := by decide +kernel
theorem d_X12_land_0 : decode cX12_land 0 = .ok (.aload_n 0, 1) := by decide +kernel
theorem d_X12_land_1 : decode cX12_land 1 = .ok (.iload_n 1, 1) := by decide +kernel
theorem d_X12_land_2 : decode cX12_land 2 = .ok (.invokevirtual 235, 3) := by decide +kernel
theorem d_X12_land_5 : decode cX12_land 5 = .ok (.ifCond .ne 9, 3) := by decide +kernel
theorem d_X12_land_8 : decode cX12_land 8 = .ok (.aload_n 0, 1) := by decide +kernel
theorem d_X12_land_9 : decode cX12_land 9 = .ok (.iconst 1, 1) := by decide +kernel
theorem d_X12_land_10 : decode cX12_land 10 = .ok (.invokevirtual 187, 3) := by decide +kernel
theorem d_X12_land_13 : decode cX12_land 13 = .ok (.ireturn, 1) := by decide +kernel
theorem d_X12_land_14 : decode cX12_land 14 = .ok (.aload_n 0, 1) := by decide +kernel
theorem d_X12_land_15 : decode cX12_land 15 = .ok (.getfield 80, 3) := by decide +kernel
theorem d_X12_land_18 : decode cX12_land 18 = .ok (.iload_n 1, 1) := by decide +kernel
theorem d_X12_land_19 : decode cX12_land 19 = .ok (.iaload, 1) := by decide +kernel
theorem d_X12_land_20 : decode cX12_land 20 = .ok (.iconst 1, 1) := by decide +kernel
theorem d_X12_land_21 : decode cX12_land 21 = .ok (.if_icmp .ne 17, 3) := by decide +kernel
theorem d_X12_land_24 : decode cX12_land 24 = .ok (.aload_n 0, 1) := by decide +kernel
theorem d_X12_land_25 : decode cX12_land 25 = .ok (.getfield 47, 3) := by decide +kernel
theorem d_X12_land_28 : decode cX12_land 28 = .ok (.aload_n 0, 1) := by decide +kernel
theorem d_X12_land_29 : decode cX12_land 29 = .ok (.getfield 83, 3) := by decide +kernel
theorem d_X12_land_32 : decode cX12_land 32 = .ok (.iload_n 1, 1) := by decide +kernel
theorem d_X12_land_33 : decode cX12_land 33 = .ok (.iaload, 1) := by decide +kernel
theorem d_X12_land_34 : decode cX12_land 34 = .ok (.iaload, 1) := by decide +kernel
theorem d_X12_land_35 : decode cX12_land 35 = .ok (.ifCond .eq 9, 3) := by decide +kernel
theorem d_X12_land_38 : decode cX12_land 38 = .ok (.aload_n 0, 1) := by decide +kernel
theorem d_X12_land_39 : decode cX12_land 39 = .ok (.iconst 3, 1) := by decide +kernel
theorem d_X12_land_40 : decode cX12_land 40 = .ok (.invokevirtual 187, 3) := by decide +kernel
theorem d_X12_land_43 : decode cX12_land 43 = .ok (.ireturn, 1) := by decide +kernel
theorem d_X12_land_44 : decode cX12_land 44 = .ok (.aload_n 0, 1) := by decide +kernel
theorem d_X12_land_45 : decode cX12_land 45 = .ok (.getfield 50, 3) := by decide +kernel
theorem d_X12_land_48 : decode cX12_land 48 = .ok (.aload_n 0, 1) := by decide +kernel
theorem d_X12_land_49 : decode cX12_land 49 = .ok (.getfield 83, 3) := by decide +kernel
theorem d_X12_land_52 : decode cX12_land 52 = .ok (.iload_n 1, 1) := by decide +kernel
theorem d_X12_land_53 : decode cX12_land 53 = .ok (.iaload, 1) := by decide +kernel
theorem d_X12_land_54 : decode cX12_land 54 = .ok (.iaload, 1) := by decide +kernel
theorem d_X12_land_55 : decode cX12_land 55 = .ok (.istore_n 2, 1) := by decide +kernel
theorem d_X12_land_56 : decode cX12_land 56 = .ok (.aload_n 0, 1) := by decide +kernel
theorem d_X12_land_57 : decode cX12_land 57 = .ok (.getfield 83, 3) := by decide +kernel
theorem d_X12_land_60 : decode cX12_land 60 = .ok (.iload_n 1, 1) := by decide +kernel
theorem d_X12_land_61 : decode cX12_land 61 = .ok (.iload_n 2, 1) := by decide +kernel
theorem d_X12_land_62 : decode cX12_land 62 = .ok (.iastore, 1) := by decide +kernel
theorem d_X12_land_63 : decode cX12_land 63 = .ok (.aload_n 0, 1) := by decide +kernel
theorem d_X12_land_64 : decode cX12_land 64 = .ok (.getfield 80, 3) := by decide +kernel
theorem d_X12_land_67 : decode cX12_land 67 = .ok (.iload_n 1, 1) := by decide +kernel
theorem d_X12_land_68 : decode cX12_land 68 = .ok (.iload_n 2, 1) := by decide +kernel
theorem d_X12_land_69 : decode cX12_land 69 = .ok (.aload_n 0, 1) := by decide +kernel
theorem d_X12_land_70 : decode cX12_land 70 = .ok (.getfield 71, 3) := by decide +kernel
theorem d_X12_land_73 : decode cX12_land 73 = .ok (.iload_n 1, 1) := by decide +kernel
theorem d_X12_land_74 : decode cX12_land 74 = .ok (.iaload, 1) := by decide +kernel
theorem d_X12_land_75 : decode cX12_land 75 = .ok (.if_icmp .ne 7, 3) := by decide +kernel
theorem d_X12_land_78 : decode cX12_land 78 = .ok (.iconst 2, 1) := by decide +kernel
theorem d_X12_land_79 : decode cX12_land 79 = .ok (.goto 4, 3) := by decide +kernel
theorem d_X12_land_82 : decode cX12_land 82 = .ok (.iconst 0, 1) := by decide +kernel
theorem d_X12_land_83 : decode cX12_land 83 = .ok (.iastore, 1) := by decide +kernel
theorem d_X12_land_84 : decode cX12_land 84 = .ok (.aload_n 0, 1) := by decide +kernel
theorem d_X12_land_85 : decode cX12_land 85 = .ok (.dup, 1) := by decide +kernel
theorem d_X12_land_86 : decode cX12_land 86 = .ok (.getfield 244, 3) := by decide +kernel
theorem d_X12_land_89 : decode cX12_land 89 = .ok (.iload_n 2, 1) := by decide +kernel
theorem d_X12_land_90 : decode cX12_land 90 = .ok (.aload_n 0, 1) := by decide +kernel
theorem d_X12_land_91 : decode cX12_land 91 = .ok (.getfield 71, 3) := by decide +kernel
theorem d_X12_land_94 : decode cX12_land 94 = .ok (.iload_n 1, 1) := by decide +kernel
theorem d_X12_land_95 : decode cX12_land 95 = .ok (.iaload, 1) := by decide +kernel
theorem d_X12_land_96 : decode cX12_land 96 = .ok (.if_icmp .ne 12, 3) := by decide +kernel
theorem d_X12_land_99 : decode cX12_land 99 = .ok (.aload_n 0, 1) := by decide +kernel
theorem d_X12_land_100 : decode cX12_land 100 = .ok (.getfield 77, 3) := by decide +kernel
theorem d_X12_land_103 : decode cX12_land 103 = .ok (.iload_n 1, 1) := by decide +kernel
theorem d_X12_land_104 : decode cX12_land 104 = .ok (.iaload, 1) := by decide +kernel
theorem d_X12_land_105 : decode cX12_land 105 = .ok (.goto 4, 3) := by decide +kernel
theorem d_X12_land_108 : decode cX12_land 108 = .ok (.iconst 0, 1) := by decide +kernel
theorem d_X12_land_109 : decode cX12_land 109 = .ok (.iadd, 1) := by decide +kernel
theorem d_X12_land_110 : decode cX12_land 110 = .ok (.putfield 244, 3) := by decide +kernel
theorem d_X12_land_113 : decode cX12_land 113 = .ok (.aload_n 0, 1) := by decide +kernel
theorem d_X12_land_114 : decode cX12_land 114 = .ok (.iload_n 2, 1) := by decide +kernel
theorem d_X12_land_115 : decode cX12_land 115 = .ok (.invokevirtual 191, 3) := by decide +kernel
theorem d_X12_land_118 : decode cX12_land 118 = .ok (.ireturn, 1) := by decide +kernel
theorem d_X12_lose_0 : decode cX12_lose 0 = .ok (.aload_n 0, 1) := by decide +kernel
theorem d_X12_lose_1 : decode cX12_lose 1 = .ok (.iload_n 1, 1) := by decide +kernel
theorem d_X12_lose_2 : decode cX12_lose 2 = .ok (.invokevirtual 235, 3) := by decide +kernel
theorem d_X12_lose_5 : decode cX12_lose 5 = .ok (.ifCond .ne 9, 3) := by decide +kernel
theorem d_X12_lose_8 : decode cX12_lose 8 = .ok (.aload_n 0, 1) := by decide +kernel
theorem d_X12_lose_9 : decode cX12_lose 9 = .ok (.iconst 1, 1) := by decide +kernel
theorem d_X12_lose_10 : decode cX12_lose 10 = .ok (.invokevirtual 187, 3) := by decide +kernel
theorem d_X12_lose_13 : decode cX12_lose 13 = .ok (.ireturn, 1) := by decide +kernel
theorem d_X12_lose_14 : decode cX12_lose 14 = .ok (.aload_n 0, 1) := by decide +kernel
theorem d_X12_lose_15 : decode cX12_lose 15 = .ok (.getfield 80, 3) := by decide +kernel
theorem d_X12_lose_18 : decode cX12_lose 18 = .ok (.iload_n 1, 1) := by decide +kernel
theorem d_X12_lose_19 : decode cX12_lose 19 = .ok (.iaload, 1) := by decide +kernel
theorem d_X12_lose_20 : decode cX12_lose 20 = .ok (.iconst 1, 1) := by decide +kernel
theorem d_X12_lose_21 : decode cX12_lose 21 = .ok (.if_icmp .eq 9, 3) := by decide +kernel
theorem d_X12_lose_24 : decode cX12_lose 24 = .ok (.aload_n 0, 1) := by decide +kernel
theorem d_X12_lose_25 : decode cX12_lose 25 = .ok (.iconst 3, 1) := by decide +kernel
theorem d_X12_lose_26 : decode cX12_lose 26 = .ok (.invokevirtual 187, 3) := by decide +kernel
theorem d_X12_lose_29 : decode cX12_lose 29 = .ok (.ireturn, 1) := by decide +kernel
theorem d_X12_lose_30 : decode cX12_lose 30 = .ok (.aload_n 0, 1) := by decide +kernel
theorem d_X12_lose_31 : decode cX12_lose 31 = .ok (.getfield 80, 3) := by decide +kernel
theorem d_X12_lose_34 : decode cX12_lose 34 = .ok (.iload_n 1, 1) := by decide +kernel
theorem d_X12_lose_35 : decode cX12_lose 35 = .ok (.iconst 3, 1) := by decide +kernel
theorem d_X12_lose_36 : decode cX12_lose 36 = .ok (.iastore, 1) := by decide +kernel
theorem d_X12_lose_37 : decode cX12_lose 37 = .ok (.aload_n 0, 1) := by decide +kernel
theorem d_X12_lose_38 : decode cX12_lose 38 = .ok (.getfield 83, 3) := by decide +kernel
theorem d_X12_lose_41 : decode cX12_lose 41 = .ok (.iload_n 1, 1) := by decide +kernel
theorem d_X12_lose_42 : decode cX12_lose 42 = .ok (.iconst (-1), 1) := by decide +kernel
theorem d_X12_lose_43 : decode cX12_lose 43 = .ok (.iastore, 1) := by decide +kernel
theorem d_X12_lose_44 : decode cX12_lose 44 = .ok (.aload_n 0, 1) := by decide +kernel
theorem d_X12_lose_45 : decode cX12_lose 45 = .ok (.iconst 1, 1) := by decide +kernel
theorem d_X12_lose_46 : decode cX12_lose 46 = .ok (.invokevirtual 191, 3) := by decide +kernel
theorem d_X12_lose_49 : decode cX12_lose 49 = .ok (.ireturn, 1) := by decide +kernel
theorem d_X12_hears_0 : decode cX12_hears 0 = .ok (.aload_n 0, 1) := by decide +kernel
theorem d_X12_hears_1 : decode cX12_hears 1 = .ok (.getfield 65, 3) := by decide +kernel
theorem d_X12_hears_4 : decode cX12_hears 4 = .ok (.iload_n 2, 1) := by decide +kernel
theorem d_X12_hears_5 : decode cX12_hears 5 = .ok (.iaload, 1) := by decide +kernel
theorem d_X12_hears_6 : decode cX12_hears 6 = .ok (.aload_n 0, 1) := by decide +kernel
theorem d_X12_hears_7 : decode cX12_hears 7 = .ok (.getfield 65, 3) := by decide +kernel
theorem d_X12_hears_10 : decode cX12_hears 10 = .ok (.iload_n 1, 1) := by decide +kernel
theorem d_X12_hears_11 : decode cX12_hears 11 = .ok (.iaload, 1) := by decide +kernel
theorem d_X12_hears_12 : decode cX12_hears 12 = .ok (.if_icmp .le 27, 3) := by decide +kernel
theorem d_X12_hears_15 : decode cX12_hears 15 = .ok (.aload_n 0, 1) := by decide +kernel
theorem d_X12_hears_16 : decode cX12_hears 16 = .ok (.getfield 65, 3) := by decide +kernel
theorem d_X12_hears_19 : decode cX12_hears 19 = .ok (.iload_n 1, 1) := by decide +kernel
theorem d_X12_hears_20 : decode cX12_hears 20 = .ok (.aload_n 0, 1) := by decide +kernel
theorem d_X12_hears_21 : decode cX12_hears 21 = .ok (.getfield 65, 3) := by decide +kernel
theorem d_X12_hears_24 : decode cX12_hears 24 = .ok (.iload_n 2, 1) := by decide +kernel
theorem d_X12_hears_25 : decode cX12_hears 25 = .ok (.iaload, 1) := by decide +kernel
theorem d_X12_hears_26 : decode cX12_hears 26 = .ok (.iastore, 1) := by decide +kernel
theorem d_X12_hears_27 : decode cX12_hears 27 = .ok (.aload_n 0, 1) := by decide +kernel
theorem d_X12_hears_28 : decode cX12_hears 28 = .ok (.getfield 62, 3) := by decide +kernel
theorem d_X12_hears_31 : decode cX12_hears 31 = .ok (.iload_n 1, 1) := by decide +kernel
theorem d_X12_hears_32 : decode cX12_hears 32 = .ok (.aload_n 0, 1) := by decide +kernel
theorem d_X12_hears_33 : decode cX12_hears 33 = .ok (.getfield 62, 3) := by decide +kernel
theorem d_X12_hears_36 : decode cX12_hears 36 = .ok (.iload_n 2, 1) := by decide +kernel
theorem d_X12_hears_37 : decode cX12_hears 37 = .ok (.iaload, 1) := by decide +kernel
theorem d_X12_hears_38 : decode cX12_hears 38 = .ok (.iastore, 1) := by decide +kernel
theorem d_X12_hears_39 : decode cX12_hears 39 = .ok (.return_, 1) := by decide +kernel
theorem d_X12_comes_0 : decode cX12_comes 0 = .ok (.aload_n 0, 1) := by decide +kernel
theorem d_X12_comes_1 : decode cX12_comes 1 = .ok (.getfield 47, 3) := by decide +kernel
theorem d_X12_comes_4 : decode cX12_comes 4 = .ok (.iload_n 1, 1) := by decide +kernel
theorem d_X12_comes_5 : decode cX12_comes 5 = .ok (.iconst 0, 1) := by decide +kernel
theorem d_X12_comes_6 : decode cX12_comes 6 = .ok (.iastore, 1) := by decide +kernel
theorem d_X12_comes_7 : decode cX12_comes 7 = .ok (.aload_n 0, 1) := by decide +kernel
theorem d_X12_comes_8 : decode cX12_comes 8 = .ok (.getfield 50, 3) := by decide +kernel
theorem d_X12_comes_11 : decode cX12_comes 11 = .ok (.iload_n 1, 1) := by decide +kernel
theorem d_X12_comes_12 : decode cX12_comes 12 = .ok (.iload_n 2, 1) := by decide +kernel
theorem d_X12_comes_13 : decode cX12_comes 13 = .ok (.iastore, 1) := by decide +kernel
theorem d_X12_comes_14 : decode cX12_comes 14 = .ok (.aload_n 0, 1) := by decide +kernel
theorem d_X12_comes_15 : decode cX12_comes 15 = .ok (.getfield 56, 3) := by decide +kernel
theorem d_X12_comes_18 : decode cX12_comes 18 = .ok (.iload_n 1, 1) := by decide +kernel
theorem d_X12_comes_19 : decode cX12_comes 19 = .ok (.iconst 0, 1) := by decide +kernel
theorem d_X12_comes_20 : decode cX12_comes 20 = .ok (.iastore, 1) := by decide +kernel
theorem d_X12_comes_21 : decode cX12_comes 21 = .ok (.iconst 0, 1) := by decide +kernel
theorem d_X12_comes_22 : decode cX12_comes 22 = .ok (.istore_n 3, 1) := by decide +kernel
theorem d_X12_comes_23 : decode cX12_comes 23 = .ok (.iload_n 3, 1) := by decide +kernel
theorem d_X12_comes_24 : decode cX12_comes 24 = .ok (.aload_n 0, 1) := by decide +kernel
theorem d_X12_comes_25 : decode cX12_comes 25 = .ok (.getfield 171, 3) := by decide +kernel
theorem d_X12_comes_28 : decode cX12_comes 28 = .ok (.if_icmp .ge 43, 3) := by decide +kernel
theorem d_X12_comes_31 : decode cX12_comes 31 = .ok (.bipush 10, 2) := by decide +kernel
theorem d_X12_comes_33 : decode cX12_comes 33 = .ok (.iload_n 1, 1) := by decide +kernel
theorem d_X12_comes_34 : decode cX12_comes 34 = .ok (.imul, 1) := by decide +kernel
theorem d_X12_comes_35 : decode cX12_comes 35 = .ok (.iload_n 3, 1) := by decide +kernel
theorem d_X12_comes_36 : decode cX12_comes 36 = .ok (.iadd, 1) := by decide +kernel
theorem d_X12_comes_37 : decode cX12_comes 37 = .ok (.istore 4, 2) := by decide +kernel
theorem d_X12_comes_39 : decode cX12_comes 39 = .ok (.bipush 10, 2) := by decide +kernel
theorem d_X12_comes_41 : decode cX12_comes 41 = .ok (.iconst 5, 1) := by decide +kernel
theorem d_X12_comes_42 : decode cX12_comes 42 = .ok (.iload_n 2, 1) := by decide +kernel
theorem d_X12_comes_43 : decode cX12_comes 43 = .ok (.iadd, 1) := by decide +kernel
theorem d_X12_comes_44 : decode cX12_comes 44 = .ok (.imul, 1) := by decide +kernel
theorem d_X12_comes_45 : decode cX12_comes 45 = .ok (.iload_n 3, 1) := by decide +kernel
theorem d_X12_comes_46 : decode cX12_comes 46 = .ok (.iadd, 1) := by decide +kernel
theorem d_X12_comes_47 : decode cX12_comes 47 = .ok (.istore 5, 2) := by decide +kernel
theorem d_X12_comes_49 : decode cX12_comes 49 = .ok (.aload_n 0, 1) := by decide +kernel
theorem d_X12_comes_50 : decode cX12_comes 50 = .ok (.iload 4, 2) := by decide +kernel
theorem d_X12_comes_52 : decode cX12_comes 52 = .ok (.iload 5, 2) := by decide +kernel
theorem d_X12_comes_54 : decode cX12_comes 54 = .ok (.invokevirtual 247, 3) := by decide +kernel
theorem d_X12_comes_57 : decode cX12_comes 57 = .ok (.aload_n 0, 1) := by decide +kernel
theorem d_X12_comes_58 : decode cX12_comes 58 = .ok (.iload 5, 2) := by decide +kernel
theorem d_X12_comes_60 : decode cX12_comes 60 = .ok (.iload 4, 2) := by decide +kernel
theorem d_X12_comes_62 : decode cX12_comes 62 = .ok (.invokevirtual 247, 3) := by decide +kernel
theorem d_X12_comes_65 : decode cX12_comes 65 = .ok (.iinc 3 1, 3) := by decide +kernel
theorem d_X12_comes_68 : decode cX12_comes 68 = .ok (.goto (-45), 3) := by decide +kernel
theorem d_X12_comes_71 : decode cX12_comes 71 = .ok (.return_, 1) := by decide +kernel
theorem d_X12_ahead_0 : decode cX12_ahead 0 = .ok (.iload_n 2, 1) := by decide +kernel
theorem d_X12_ahead_1 : decode cX12_ahead 1 = .ok (.ifCond .eq 12, 3) := by decide +kernel
theorem d_X12_ahead_4 : decode cX12_ahead 4 = .ok (.aload_n 0, 1) := by decide +kernel
theorem d_X12_ahead_5 : decode cX12_ahead 5 = .ok (.getfield 50, 3) := by decide +kernel
theorem d_X12_ahead_8 : decode cX12_ahead 8 = .ok (.iload_n 1, 1) := by decide +kernel
theorem d_X12_ahead_9 : decode cX12_ahead 9 = .ok (.iaload, 1) := by decide +kernel
theorem d_X12_ahead_10 : decode cX12_ahead 10 = .ok (.goto 11, 3) := by decide +kernel
theorem d_X12_ahead_13 : decode cX12_ahead 13 = .ok (.aload_n 0, 1) := by decide +kernel
theorem d_X12_ahead_14 : decode cX12_ahead 14 = .ok (.getfield 50, 3) := by decide +kernel
theorem d_X12_ahead_17 : decode cX12_ahead 17 = .ok (.iload_n 1, 1) := by decide +kernel
theorem d_X12_ahead_18 : decode cX12_ahead 18 = .ok (.iaload, 1) := by decide +kernel
theorem d_X12_ahead_19 : decode cX12_ahead 19 = .ok (.iconst 1, 1) := by decide +kernel
theorem d_X12_ahead_20 : decode cX12_ahead 20 = .ok (.isub, 1) := by decide +kernel
theorem d_X12_ahead_21 : decode cX12_ahead 21 = .ok (.istore_n 3, 1) := by decide +kernel
theorem d_X12_ahead_22 : decode cX12_ahead 22 = .ok (.aload_n 0, 1) := by decide +kernel
theorem d_X12_ahead_23 : decode cX12_ahead 23 = .ok (.iload_n 3, 1) := by decide +kernel
theorem d_X12_ahead_24 : decode cX12_ahead 24 = .ok (.invokevirtual 202, 3) := by decide +kernel
theorem d_X12_ahead_27 : decode cX12_ahead 27 = .ok (.ifCond .eq 7, 3) := by decide +kernel
theorem d_X12_ahead_30 : decode cX12_ahead 30 = .ok (.iload_n 3, 1) := by decide +kernel
theorem d_X12_ahead_31 : decode cX12_ahead 31 = .ok (.goto 4, 3) := by decide +kernel
theorem d_X12_ahead_34 : decode cX12_ahead 34 = .ok (.iconst (-1), 1) := by decide +kernel
theorem d_X12_ahead_35 : decode cX12_ahead 35 = .ok (.ireturn, 1) := by decide +kernel
theorem d_X12_whyNot_0 : decode cX12_whyNot 0 = .ok (.aload_n 0, 1) := by decide +kernel
theorem d_X12_whyNot_1 : decode cX12_whyNot 1 = .ok (.getfield 47, 3) := by decide +kernel
theorem d_X12_whyNot_4 : decode cX12_whyNot 4 = .ok (.iload_n 1, 1) := by decide +kernel
theorem d_X12_whyNot_5 : decode cX12_whyNot 5 = .ok (.iaload, 1) := by decide +kernel
theorem d_X12_whyNot_6 : decode cX12_whyNot 6 = .ok (.ifCond .eq 5, 3) := by decide +kernel
theorem d_X12_whyNot_9 : decode cX12_whyNot 9 = .ok (.iconst 1, 1) := by decide +kernel
theorem d_X12_whyNot_10 : decode cX12_whyNot 10 = .ok (.ireturn, 1) := by decide +kernel
theorem d_X12_whyNot_11 : decode cX12_whyNot 11 = .ok (.aload_n 0, 1) := by decide +kernel
theorem d_X12_whyNot_12 : decode cX12_whyNot 12 = .ok (.iload_n 1, 1) := by decide +kernel
theorem d_X12_whyNot_13 : decode cX12_whyNot 13 = .ok (.iload_n 2, 1) := by decide +kernel
theorem d_X12_whyNot_14 : decode cX12_whyNot 14 = .ok (.invokevirtual 251, 3) := by decide +kernel
theorem d_X12_whyNot_17 : decode cX12_whyNot 17 = .ok (.istore_n 3, 1) := by decide +kernel
theorem d_X12_whyNot_18 : decode cX12_whyNot 18 = .ok (.iload_n 3, 1) := by decide +kernel
theorem d_X12_whyNot_19 : decode cX12_whyNot 19 = .ok (.iconst (-1), 1) := by decide +kernel
theorem d_X12_whyNot_20 : decode cX12_whyNot 20 = .ok (.if_icmp .ne 5, 3) := by decide +kernel
theorem d_X12_whyNot_23 : decode cX12_whyNot 23 = .ok (.iconst 2, 1) := by decide +kernel
theorem d_X12_whyNot_24 : decode cX12_whyNot 24 = .ok (.ireturn, 1) := by decide +kernel
theorem d_X12_whyNot_25 : decode cX12_whyNot 25 = .ok (.bipush 10, 2) := by decide +kernel
theorem d_X12_whyNot_27 : decode cX12_whyNot 27 = .ok (.iload_n 1, 1) := by decide +kernel
theorem d_X12_whyNot_28 : decode cX12_whyNot 28 = .ok (.imul, 1) := by decide +kernel
theorem d_X12_whyNot_29 : decode cX12_whyNot 29 = .ok (.iload_n 3, 1) := by decide +kernel
theorem d_X12_whyNot_30 : decode cX12_whyNot 30 = .ok (.iadd, 1) := by decide +kernel
theorem d_X12_whyNot_31 : decode cX12_whyNot 31 = .ok (.istore 4, 2) := by decide +kernel
theorem d_X12_whyNot_33 : decode cX12_whyNot 33 = .ok (.aload_n 0, 1) := by decide +kernel
theorem d_X12_whyNot_34 : decode cX12_whyNot 34 = .ok (.getfield 65, 3) := by decide +kernel
theorem d_X12_whyNot_37 : decode cX12_whyNot 37 = .ok (.iload 4, 2) := by decide +kernel
theorem d_X12_whyNot_39 : decode cX12_whyNot 39 = .ok (.iaload, 1) := by decide +kernel
theorem d_X12_whyNot_40 : decode cX12_whyNot 40 = .ok (.iconst (-1), 1) := by decide +kernel
theorem d_X12_whyNot_41 : decode cX12_whyNot 41 = .ok (.if_icmp .eq 20, 3) := by decide +kernel
theorem d_X12_whyNot_44 : decode cX12_whyNot 44 = .ok (.aload_n 0, 1) := by decide +kernel
theorem d_X12_whyNot_45 : decode cX12_whyNot 45 = .ok (.getfield 62, 3) := by decide +kernel
theorem d_X12_whyNot_48 : decode cX12_whyNot 48 = .ok (.iload 4, 2) := by decide +kernel
theorem d_X12_whyNot_50 : decode cX12_whyNot 50 = .ok (.iaload, 1) := by decide +kernel
theorem d_X12_whyNot_51 : decode cX12_whyNot 51 = .ok (.aload_n 0, 1) := by decide +kernel
theorem d_X12_whyNot_52 : decode cX12_whyNot 52 = .ok (.iload_n 1, 1) := by decide +kernel
theorem d_X12_whyNot_53 : decode cX12_whyNot 53 = .ok (.invokevirtual 241, 3) := by decide +kernel
theorem d_X12_whyNot_56 : decode cX12_whyNot 56 = .ok (.if_icmp .ge 5, 3) := by decide +kernel
theorem d_X12_whyNot_59 : decode cX12_whyNot 59 = .ok (.iconst 3, 1) := by decide +kernel
theorem d_X12_whyNot_60 : decode cX12_whyNot 60 = .ok (.ireturn, 1) := by decide +kernel
theorem d_X12_whyNot_61 : decode cX12_whyNot 61 = .ok (.aload_n 0, 1) := by decide +kernel
theorem d_X12_whyNot_62 : decode cX12_whyNot 62 = .ok (.getfield 59, 3) := by decide +kernel
theorem d_X12_whyNot_65 : decode cX12_whyNot 65 = .ok (.iload_n 1, 1) := by decide +kernel
theorem d_X12_whyNot_66 : decode cX12_whyNot 66 = .ok (.iaload, 1) := by decide +kernel
theorem d_X12_whyNot_67 : decode cX12_whyNot 67 = .ok (.aload_n 0, 1) := by decide +kernel
theorem d_X12_whyNot_68 : decode cX12_whyNot 68 = .ok (.iload_n 3, 1) := by decide +kernel
theorem d_X12_whyNot_69 : decode cX12_whyNot 69 = .ok (.aload_n 0, 1) := by decide +kernel
theorem d_X12_whyNot_70 : decode cX12_whyNot 70 = .ok (.invokevirtual 221, 3) := by decide +kernel
theorem d_X12_whyNot_73 : decode cX12_whyNot 73 = .ok (.invokevirtual 225, 3) := by decide +kernel
theorem d_X12_whyNot_76 : decode cX12_whyNot 76 = .ok (.if_icmp .ge 7, 3) := by decide +kernel
theorem d_X12_whyNot_79 : decode cX12_whyNot 79 = .ok (.iconst 4, 1) := by decide +kernel
theorem d_X12_whyNot_80 : decode cX12_whyNot 80 = .ok (.goto 4, 3) := by decide +kernel
theorem d_X12_whyNot_83 : decode cX12_whyNot 83 = .ok (.iconst 0, 1) := by decide +kernel
theorem d_X12_whyNot_84 : decode cX12_whyNot 84 = .ok (.ireturn, 1) := by decide +kernel
theorem d_X12_why_0 : decode cX12_why 0 = .ok (.aload_n 0, 1) := by decide +kernel
theorem d_X12_why_1 : decode cX12_why 1 = .ok (.iload_n 1, 1) := by decide +kernel
theorem d_X12_why_2 : decode cX12_why 2 = .ok (.invokevirtual 238, 3) := by decide +kernel
theorem d_X12_why_5 : decode cX12_why 5 = .ok (.ifCond .eq 12, 3) := by decide +kernel
theorem d_X12_why_8 : decode cX12_why 8 = .ok (.aload_n 0, 1) := by decide +kernel
theorem d_X12_why_9 : decode cX12_why 9 = .ok (.iload_n 1, 1) := by decide +kernel
theorem d_X12_why_10 : decode cX12_why 10 = .ok (.iload_n 2, 1) := by decide +kernel
theorem d_X12_why_11 : decode cX12_why 11 = .ok (.invokevirtual 254, 3) := by decide +kernel
theorem d_X12_why_14 : decode cX12_why 14 = .ok (.goto 4, 3) := by decide +kernel
theorem d_X12_why_17 : decode cX12_why 17 = .ok (.iconst (-1), 1) := by decide +kernel
theorem d_X12_why_18 : decode cX12_why 18 = .ok (.ireturn, 1) := by decide +kernel
theorem d_X12_leave_0 : decode cX12_leave 0 = .ok (.aload_n 0, 1) := by decide +kernel
theorem d_X12_leave_1 : decode cX12_leave 1 = .ok (.iload_n 1, 1) := by decide +kernel
theorem d_X12_leave_2 : decode cX12_leave 2 = .ok (.invokevirtual 238, 3) := by decide +kernel
theorem d_X12_leave_5 : decode cX12_leave 5 = .ok (.ifCond .ne 9, 3) := by decide +kernel
theorem d_X12_leave_8 : decode cX12_leave 8 = .ok (.aload_n 0, 1) := by decide +kernel
theorem d_X12_leave_9 : decode cX12_leave 9 = .ok (.iconst 1, 1) := by decide +kernel
theorem d_X12_leave_10 : decode cX12_leave 10 = .ok (.invokevirtual 187, 3) := by decide +kernel
theorem d_X12_leave_13 : decode cX12_leave 13 = .ok (.ireturn, 1) := by decide +kernel
theorem d_X12_leave_14 : decode cX12_leave 14 = .ok (.aload_n 0, 1) := by decide +kernel
theorem d_X12_leave_15 : decode cX12_leave 15 = .ok (.iload_n 1, 1) := by decide +kernel
theorem d_X12_leave_16 : decode cX12_leave 16 = .ok (.iload_n 2, 1) := by decide +kernel
theorem d_X12_leave_17 : decode cX12_leave 17 = .ok (.invokevirtual 254, 3) := by decide +kernel
theorem d_X12_leave_20 : decode cX12_leave 20 = .ok (.istore_n 3, 1) := by decide +kernel
theorem d_X12_leave_21 : decode cX12_leave 21 = .ok (.iload_n 3, 1) := by decide +kernel
theorem d_X12_leave_22 : decode cX12_leave 22 = .ok (.ifCond .eq 12, 3) := by decide +kernel
theorem d_X12_leave_25 : decode cX12_leave 25 = .ok (.aload_n 0, 1) := by decide +kernel
theorem d_X12_leave_26 : decode cX12_leave 26 = .ok (.bipush 20, 2) := by decide +kernel
theorem d_X12_leave_28 : decode cX12_leave 28 = .ok (.iload_n 3, 1) := by decide +kernel
theorem d_X12_leave_29 : decode cX12_leave 29 = .ok (.iadd, 1) := by decide +kernel
theorem d_X12_leave_30 : decode cX12_leave 30 = .ok (.invokevirtual 187, 3) := by decide +kernel
theorem d_X12_leave_33 : decode cX12_leave 33 = .ok (.ireturn, 1) := by decide +kernel
theorem d_X12_leave_34 : decode cX12_leave 34 = .ok (.aload_n 0, 1) := by decide +kernel
theorem d_X12_leave_35 : decode cX12_leave 35 = .ok (.iload_n 1, 1) := by decide +kernel
theorem d_X12_leave_36 : decode cX12_leave 36 = .ok (.iload_n 2, 1) := by decide +kernel
theorem d_X12_leave_37 : decode cX12_leave 37 = .ok (.invokevirtual 251, 3) := by decide +kernel
theorem d_X12_leave_40 : decode cX12_leave 40 = .ok (.istore 4, 2) := by decide +kernel
theorem d_X12_leave_42 : decode cX12_leave 42 = .ok (.aload_n 0, 1) := by decide +kernel
theorem d_X12_leave_43 : decode cX12_leave 43 = .ok (.iload 4, 2) := by decide +kernel
theorem d_X12_leave_45 : decode cX12_leave 45 = .ok (.aload_n 0, 1) := by decide +kernel
theorem d_X12_leave_46 : decode cX12_leave 46 = .ok (.invokevirtual 221, 3) := by decide +kernel
theorem d_X12_leave_49 : decode cX12_leave 49 = .ok (.invokevirtual 225, 3) := by decide +kernel
theorem d_X12_leave_52 : decode cX12_leave 52 = .ok (.istore 5, 2) := by decide +kernel
theorem d_X12_leave_54 : decode cX12_leave 54 = .ok (.aload_n 0, 1) := by decide +kernel
theorem d_X12_leave_55 : decode cX12_leave 55 = .ok (.iload 4, 2) := by decide +kernel
theorem d_X12_leave_57 : decode cX12_leave 57 = .ok (.aload_n 0, 1) := by decide +kernel
theorem d_X12_leave_58 : decode cX12_leave 58 = .ok (.invokevirtual 218, 3) := by decide +kernel
theorem d_X12_leave_61 : decode cX12_leave 61 = .ok (.invokevirtual 215, 3) := by decide +kernel
theorem d_X12_leave_64 : decode cX12_leave 64 = .ok (.istore 6, 2) := by decide +kernel
theorem d_X12_leave_66 : decode cX12_leave 66 = .ok (.aload_n 0, 1) := by decide +kernel
theorem d_X12_leave_67 : decode cX12_leave 67 = .ok (.getfield 62, 3) := by decide +kernel
theorem d_X12_leave_70 : decode cX12_leave 70 = .ok (.bipush 10, 2) := by decide +kernel
theorem d_X12_leave_72 : decode cX12_leave 72 = .ok (.iload_n 1, 1) := by decide +kernel
theorem d_X12_leave_73 : decode cX12_leave 73 = .ok (.imul, 1) := by decide +kernel
theorem d_X12_leave_74 : decode cX12_leave 74 = .ok (.iload 4, 2) := by decide +kernel
theorem d_X12_leave_76 : decode cX12_leave 76 = .ok (.iadd, 1) := by decide +kernel
theorem d_X12_leave_77 : decode cX12_leave 77 = .ok (.iload 6, 2) := by decide +kernel
theorem d_X12_leave_79 : decode cX12_leave 79 = .ok (.iastore, 1) := by decide +kernel
theorem d_X12_leave_80 : decode cX12_leave 80 = .ok (.aload_n 0, 1) := by decide +kernel
theorem d_X12_leave_81 : decode cX12_leave 81 = .ok (.getfield 65, 3) := by decide +kernel
theorem d_X12_leave_84 : decode cX12_leave 84 = .ok (.bipush 10, 2) := by decide +kernel
theorem d_X12_leave_86 : decode cX12_leave 86 = .ok (.iload_n 1, 1) := by decide +kernel
theorem d_X12_leave_87 : decode cX12_leave 87 = .ok (.imul, 1) := by decide +kernel
theorem d_X12_leave_88 : decode cX12_leave 88 = .ok (.iload 4, 2) := by decide +kernel
theorem d_X12_leave_90 : decode cX12_leave 90 = .ok (.iadd, 1) := by decide +kernel
theorem d_X12_leave_91 : decode cX12_leave 91 = .ok (.aload_n 0, 1) := by decide +kernel
theorem d_X12_leave_92 : decode cX12_leave 92 = .ok (.getfield 184, 3) := by decide +kernel
theorem d_X12_leave_95 : decode cX12_leave 95 = .ok (.iastore, 1) := by decide +kernel
theorem d_X12_leave_96 : decode cX12_leave 96 = .ok (.aload_n 0, 1) := by decide +kernel
theorem d_X12_leave_97 : decode cX12_leave 97 = .ok (.getfield 53, 3) := by decide +kernel
theorem d_X12_leave_100 : decode cX12_leave 100 = .ok (.iload_n 1, 1) := by decide +kernel
theorem d_X12_leave_101 : decode cX12_leave 101 = .ok (.aload_n 0, 1) := by decide +kernel
theorem d_X12_leave_102 : decode cX12_leave 102 = .ok (.getfield 50, 3) := by decide +kernel
theorem d_X12_leave_105 : decode cX12_leave 105 = .ok (.iload_n 1, 1) := by decide +kernel
theorem d_X12_leave_106 : decode cX12_leave 106 = .ok (.iaload, 1) := by decide +kernel
theorem d_X12_leave_107 : decode cX12_leave 107 = .ok (.iastore, 1) := by decide +kernel
theorem d_X12_leave_108 : decode cX12_leave 108 = .ok (.aload_n 0, 1) := by decide +kernel
theorem d_X12_leave_109 : decode cX12_leave 109 = .ok (.getfield 50, 3) := by decide +kernel
theorem d_X12_leave_112 : decode cX12_leave 112 = .ok (.iload_n 1, 1) := by decide +kernel
theorem d_X12_leave_113 : decode cX12_leave 113 = .ok (.iload 4, 2) := by decide +kernel
theorem d_X12_leave_115 : decode cX12_leave 115 = .ok (.iastore, 1) := by decide +kernel
theorem d_X12_leave_116 : decode cX12_leave 116 = .ok (.aload_n 0, 1) := by decide +kernel
theorem d_X12_leave_117 : decode cX12_leave 117 = .ok (.iload_n 1, 1) := by decide +kernel
theorem d_X12_leave_118 : decode cX12_leave 118 = .ok (.invokevirtual 241, 3) := by decide +kernel
theorem d_X12_leave_121 : decode cX12_leave 121 = .ok (.iload 6, 2) := by decide +kernel
theorem d_X12_leave_123 : decode cX12_leave 123 = .ok (.if_icmp .le 16, 3) := by decide +kernel
theorem d_X12_leave_126 : decode cX12_leave 126 = .ok (.aload_n 0, 1) := by decide +kernel
theorem d_X12_leave_127 : decode cX12_leave 127 = .ok (.getfield 47, 3) := by decide +kernel
theorem d_X12_leave_130 : decode cX12_leave 130 = .ok (.iload_n 1, 1) := by decide +kernel
theorem d_X12_leave_131 : decode cX12_leave 131 = .ok (.iconst 3, 1) := by decide +kernel
theorem d_X12_leave_132 : decode cX12_leave 132 = .ok (.iastore, 1) := by decide +kernel
theorem d_X12_leave_133 : decode cX12_leave 133 = .ok (.aload_n 0, 1) := by decide +kernel
theorem d_X12_leave_134 : decode cX12_leave 134 = .ok (.iconst 0, 1) := by decide +kernel
theorem d_X12_leave_135 : decode cX12_leave 135 = .ok (.invokevirtual 191, 3) := by decide +kernel
theorem d_X12_leave_138 : decode cX12_leave 138 = .ok (.ireturn, 1) := by decide +kernel
theorem d_X12_leave_139 : decode cX12_leave 139 = .ok (.aload_n 0, 1) := by decide +kernel
theorem d_X12_leave_140 : decode cX12_leave 140 = .ok (.getfield 47, 3) := by decide +kernel
theorem d_X12_leave_143 : decode cX12_leave 143 = .ok (.iload_n 1, 1) := by decide +kernel
theorem d_X12_leave_144 : decode cX12_leave 144 = .ok (.iload_n 2, 1) := by decide +kernel
theorem d_X12_leave_145 : decode cX12_leave 145 = .ok (.ifCond .eq 7, 3) := by decide +kernel
theorem d_X12_leave_148 : decode cX12_leave 148 = .ok (.iconst 1, 1) := by decide +kernel
theorem d_X12_leave_149 : decode cX12_leave 149 = .ok (.goto 4, 3) := by decide +kernel
theorem d_X12_leave_152 : decode cX12_leave 152 = .ok (.iconst 2, 1) := by decide +kernel
theorem d_X12_leave_153 : decode cX12_leave 153 = .ok (.iastore, 1) := by decide +kernel
theorem d_X12_leave_154 : decode cX12_leave 154 = .ok (.aload_n 0, 1) := by decide +kernel
theorem d_X12_leave_155 : decode cX12_leave 155 = .ok (.getfield 56, 3) := by decide +kernel
theorem d_X12_leave_158 : decode cX12_leave 158 = .ok (.iload_n 1, 1) := by decide +kernel
theorem d_X12_leave_159 : decode cX12_leave 159 = .ok (.aload_n 0, 1) := by decide +kernel
theorem d_X12_leave_160 : decode cX12_leave 160 = .ok (.getfield 184, 3) := by decide +kernel
theorem d_X12_leave_163 : decode cX12_leave 163 = .ok (.iload 5, 2) := by decide +kernel
theorem d_X12_leave_165 : decode cX12_leave 165 = .ok (.iadd, 1) := by decide +kernel
theorem d_X12_leave_166 : decode cX12_leave 166 = .ok (.iastore, 1) := by decide +kernel
theorem d_X12_leave_167 : decode cX12_leave 167 = .ok (.aload_n 0, 1) := by decide +kernel
theorem d_X12_leave_168 : decode cX12_leave 168 = .ok (.getfield 59, 3) := by decide +kernel
theorem d_X12_leave_171 : decode cX12_leave 171 = .ok (.iload_n 1, 1) := by decide +kernel
theorem d_X12_leave_172 : decode cX12_leave 172 = .ok (.dup2, 1) := by decide +kernel
theorem d_X12_leave_173 : decode cX12_leave 173 = .ok (.iaload, 1) := by decide +kernel
theorem d_X12_leave_174 : decode cX12_leave 174 = .ok (.iload 5, 2) := by decide +kernel
theorem d_X12_leave_176 : decode cX12_leave 176 = .ok (.isub, 1) := by decide +kernel
theorem d_X12_leave_177 : decode cX12_leave 177 = .ok (.iastore, 1) := by decide +kernel
theorem d_X12_leave_178 : decode cX12_leave 178 = .ok (.aload_n 0, 1) := by decide +kernel
theorem d_X12_leave_179 : decode cX12_leave 179 = .ok (.iload 5, 2) := by decide +kernel
theorem d_X12_leave_181 : decode cX12_leave 181 = .ok (.invokevirtual 191, 3) := by decide +kernel
theorem d_X12_leave_184 : decode cX12_leave 184 = .ok (.ireturn, 1) := by decide +kernel
theorem d_X12_off_0 : decode cX12_off 0 = .ok (.aload_n 0, 1) := by decide +kernel
theorem d_X12_off_1 : decode cX12_off 1 = .ok (.iload_n 1, 1) := by decide +kernel
theorem d_X12_off_2 : decode cX12_off 2 = .ok (.invokevirtual 238, 3) := by decide +kernel
theorem d_X12_off_5 : decode cX12_off 5 = .ok (.ifCond .ne 9, 3) := by decide +kernel
theorem d_X12_off_8 : decode cX12_off 8 = .ok (.aload_n 0, 1) := by decide +kernel
theorem d_X12_off_9 : decode cX12_off 9 = .ok (.iconst 1, 1) := by decide +kernel
theorem d_X12_off_10 : decode cX12_off 10 = .ok (.invokevirtual 187, 3) := by decide +kernel
theorem d_X12_off_13 : decode cX12_off 13 = .ok (.ireturn, 1) := by decide +kernel
theorem d_X12_off_14 : decode cX12_off 14 = .ok (.aload_n 0, 1) := by decide +kernel
theorem d_X12_off_15 : decode cX12_off 15 = .ok (.getfield 47, 3) := by decide +kernel
theorem d_X12_off_18 : decode cX12_off 18 = .ok (.iload_n 1, 1) := by decide +kernel
theorem d_X12_off_19 : decode cX12_off 19 = .ok (.iaload, 1) := by decide +kernel
theorem d_X12_off_20 : decode cX12_off 20 = .ok (.iconst 3, 1) := by decide +kernel
theorem d_X12_off_21 : decode cX12_off 21 = .ok (.if_icmp .ne 25, 3) := by decide +kernel
theorem d_X12_off_24 : decode cX12_off 24 = .ok (.aload_n 0, 1) := by decide +kernel
theorem d_X12_off_25 : decode cX12_off 25 = .ok (.iload_n 1, 1) := by decide +kernel
theorem d_X12_off_26 : decode cX12_off 26 = .ok (.invokevirtual 241, 3) := by decide +kernel
theorem d_X12_off_29 : decode cX12_off 29 = .ok (.aload_n 0, 1) := by decide +kernel
theorem d_X12_off_30 : decode cX12_off 30 = .ok (.aload_n 0, 1) := by decide +kernel
theorem d_X12_off_31 : decode cX12_off 31 = .ok (.getfield 50, 3) := by decide +kernel
theorem d_X12_off_34 : decode cX12_off 34 = .ok (.iload_n 1, 1) := by decide +kernel
theorem d_X12_off_35 : decode cX12_off 35 = .ok (.iaload, 1) := by decide +kernel
theorem d_X12_off_36 : decode cX12_off 36 = .ok (.aload_n 0, 1) := by decide +kernel
theorem d_X12_off_37 : decode cX12_off 37 = .ok (.invokevirtual 218, 3) := by decide +kernel
theorem d_X12_off_40 : decode cX12_off 40 = .ok (.invokevirtual 215, 3) := by decide +kernel
theorem d_X12_off_43 : decode cX12_off 43 = .ok (.if_icmp .le 9, 3) := by decide +kernel
theorem d_X12_off_46 : decode cX12_off 46 = .ok (.aload_n 0, 1) := by decide +kernel
theorem d_X12_off_47 : decode cX12_off 47 = .ok (.iconst 3, 1) := by decide +kernel
theorem d_X12_off_48 : decode cX12_off 48 = .ok (.invokevirtual 187, 3) := by decide +kernel
theorem d_X12_off_51 : decode cX12_off 51 = .ok (.ireturn, 1) := by decide +kernel
theorem d_X12_off_52 : decode cX12_off 52 = .ok (.aload_n 0, 1) := by decide +kernel
theorem d_X12_off_53 : decode cX12_off 53 = .ok (.iload_n 1, 1) := by decide +kernel
theorem d_X12_off_54 : decode cX12_off 54 = .ok (.aload_n 0, 1) := by decide +kernel
theorem d_X12_off_55 : decode cX12_off 55 = .ok (.getfield 53, 3) := by decide +kernel
theorem d_X12_off_58 : decode cX12_off 58 = .ok (.iload_n 1, 1) := by decide +kernel
theorem d_X12_off_59 : decode cX12_off 59 = .ok (.iaload, 1) := by decide +kernel
theorem d_X12_off_60 : decode cX12_off 60 = .ok (.invokevirtual 257, 3) := by decide +kernel
theorem d_X12_off_63 : decode cX12_off 63 = .ok (.aload_n 0, 1) := by decide +kernel
theorem d_X12_off_64 : decode cX12_off 64 = .ok (.aload_n 0, 1) := by decide +kernel
theorem d_X12_off_65 : decode cX12_off 65 = .ok (.getfield 50, 3) := by decide +kernel
theorem d_X12_off_68 : decode cX12_off 68 = .ok (.iload_n 1, 1) := by decide +kernel
theorem d_X12_off_69 : decode cX12_off 69 = .ok (.iaload, 1) := by decide +kernel
theorem d_X12_off_70 : decode cX12_off 70 = .ok (.invokevirtual 191, 3) := by decide +kernel
theorem d_X12_off_73 : decode cX12_off 73 = .ok (.ireturn, 1) := by decide +kernel
theorem d_X12_go_0 : decode cX12_go 0 = .ok (.iload_n 1, 1) := by decide +kernel
theorem d_X12_go_1 : decode cX12_go 1 = .ok (.iconst 1, 1) := by decide +kernel
theorem d_X12_go_2 : decode cX12_go 2 = .ok (.sipush 200, 3) := by decide +kernel
theorem d_X12_go_5 : decode cX12_go 5 = .ok (.invokestatic 174, 3) := by decide +kernel
theorem d_X12_go_8 : decode cX12_go 8 = .ok (.ifCond .ne 9, 3) := by decide +kernel
theorem d_X12_go_11 : decode cX12_go 11 = .ok (.aload_n 0, 1) := by decide +kernel
theorem d_X12_go_12 : decode cX12_go 12 = .ok (.iconst 1, 1) := by decide +kernel
theorem d_X12_go_13 : decode cX12_go 13 = .ok (.invokevirtual 187, 3) := by decide +kernel
theorem d_X12_go_16 : decode cX12_go 16 = .ok (.ireturn, 1) := by decide +kernel
theorem d_X12_go_17 : decode cX12_go 17 = .ok (.aload_n 0, 1) := by decide +kernel
theorem d_X12_go_18 : decode cX12_go 18 = .ok (.getfield 184, 3) := by decide +kernel
theorem d_X12_go_21 : decode cX12_go 21 = .ok (.iload_n 1, 1) := by decide +kernel
theorem d_X12_go_22 : decode cX12_go 22 = .ok (.iadd, 1) := by decide +kernel
theorem d_X12_go_23 : decode cX12_go 23 = .ok (.sipush 9599, 3) := by decide +kernel
theorem d_X12_go_26 : decode cX12_go 26 = .ok (.if_icmp .le 9, 3) := by decide +kernel
theorem d_X12_go_29 : decode cX12_go 29 = .ok (.aload_n 0, 1) := by decide +kernel
theorem d_X12_go_30 : decode cX12_go 30 = .ok (.iconst 2, 1) := by decide +kernel
theorem d_X12_go_31 : decode cX12_go 31 = .ok (.invokevirtual 187, 3) := by decide +kernel
theorem d_X12_go_34 : decode cX12_go 34 = .ok (.ireturn, 1) := by decide +kernel
theorem d_X12_go_35 : decode cX12_go 35 = .ok (.iconst 0, 1) := by decide +kernel
theorem d_X12_go_36 : decode cX12_go 36 = .ok (.istore_n 2, 1) := by decide +kernel
theorem d_X12_go_37 : decode cX12_go 37 = .ok (.iload_n 2, 1) := by decide +kernel
theorem d_X12_go_38 : decode cX12_go 38 = .ok (.iload_n 1, 1) := by decide +kernel
theorem d_X12_go_39 : decode cX12_go 39 = .ok (.if_icmp .ge 100, 3) := by decide +kernel
theorem d_X12_go_42 : decode cX12_go 42 = .ok (.aload_n 0, 1) := by decide +kernel
theorem d_X12_go_43 : decode cX12_go 43 = .ok (.dup, 1) := by decide +kernel
theorem d_X12_go_44 : decode cX12_go 44 = .ok (.getfield 184, 3) := by decide +kernel
theorem d_X12_go_47 : decode cX12_go 47 = .ok (.iconst 1, 1) := by decide +kernel
theorem d_X12_go_48 : decode cX12_go 48 = .ok (.iadd, 1) := by decide +kernel
theorem d_X12_go_49 : decode cX12_go 49 = .ok (.putfield 184, 3) := by decide +kernel
theorem d_X12_go_52 : decode cX12_go 52 = .ok (.iconst 0, 1) := by decide +kernel
theorem d_X12_go_53 : decode cX12_go 53 = .ok (.istore_n 3, 1) := by decide +kernel
theorem d_X12_go_54 : decode cX12_go 54 = .ok (.iload_n 3, 1) := by decide +kernel
theorem d_X12_go_55 : decode cX12_go 55 = .ok (.aload_n 0, 1) := by decide +kernel
theorem d_X12_go_56 : decode cX12_go 56 = .ok (.getfield 178, 3) := by decide +kernel
theorem d_X12_go_59 : decode cX12_go 59 = .ok (.if_icmp .ge 74, 3) := by decide +kernel
theorem d_X12_go_62 : decode cX12_go 62 = .ok (.aload_n 0, 1) := by decide +kernel
theorem d_X12_go_63 : decode cX12_go 63 = .ok (.getfield 47, 3) := by decide +kernel
theorem d_X12_go_66 : decode cX12_go 66 = .ok (.iload_n 3, 1) := by decide +kernel
theorem d_X12_go_67 : decode cX12_go 67 = .ok (.iaload, 1) := by decide +kernel
theorem d_X12_go_68 : decode cX12_go 68 = .ok (.iconst 1, 1) := by decide +kernel
theorem d_X12_go_69 : decode cX12_go 69 = .ok (.if_icmp .eq 13, 3) := by decide +kernel
theorem d_X12_go_72 : decode cX12_go 72 = .ok (.aload_n 0, 1) := by decide +kernel
theorem d_X12_go_73 : decode cX12_go 73 = .ok (.getfield 47, 3) := by decide +kernel
theorem d_X12_go_76 : decode cX12_go 76 = .ok (.iload_n 3, 1) := by decide +kernel
theorem d_X12_go_77 : decode cX12_go 77 = .ok (.iaload, 1) := by decide +kernel
theorem d_X12_go_78 : decode cX12_go 78 = .ok (.iconst 2, 1) := by decide +kernel
theorem d_X12_go_79 : decode cX12_go 79 = .ok (.if_icmp .ne 48, 3) := by decide +kernel
theorem d_X12_go_82 : decode cX12_go 82 = .ok (.aload_n 0, 1) := by decide +kernel
theorem d_X12_go_83 : decode cX12_go 83 = .ok (.getfield 56, 3) := by decide +kernel
theorem d_X12_go_86 : decode cX12_go 86 = .ok (.iload_n 3, 1) := by decide +kernel
theorem d_X12_go_87 : decode cX12_go 87 = .ok (.iaload, 1) := by decide +kernel
theorem d_X12_go_88 : decode cX12_go 88 = .ok (.aload_n 0, 1) := by decide +kernel
theorem d_X12_go_89 : decode cX12_go 89 = .ok (.getfield 184, 3) := by decide +kernel
theorem d_X12_go_92 : decode cX12_go 92 = .ok (.if_icmp .ne 35, 3) := by decide +kernel
theorem d_X12_go_95 : decode cX12_go 95 = .ok (.aload_n 0, 1) := by decide +kernel
theorem d_X12_go_96 : decode cX12_go 96 = .ok (.iload_n 3, 1) := by decide +kernel
theorem d_X12_go_97 : decode cX12_go 97 = .ok (.aload_n 0, 1) := by decide +kernel
theorem d_X12_go_98 : decode cX12_go 98 = .ok (.getfield 47, 3) := by decide +kernel
theorem d_X12_go_101 : decode cX12_go 101 = .ok (.iload_n 3, 1) := by decide +kernel
theorem d_X12_go_102 : decode cX12_go 102 = .ok (.iaload, 1) := by decide +kernel
theorem d_X12_go_103 : decode cX12_go 103 = .ok (.iconst 1, 1) := by decide +kernel
theorem d_X12_go_104 : decode cX12_go 104 = .ok (.if_icmp .ne 14, 3) := by decide +kernel
theorem d_X12_go_107 : decode cX12_go 107 = .ok (.aload_n 0, 1) := by decide +kernel
theorem d_X12_go_108 : decode cX12_go 108 = .ok (.getfield 50, 3) := by decide +kernel
theorem d_X12_go_111 : decode cX12_go 111 = .ok (.iload_n 3, 1) := by decide +kernel
theorem d_X12_go_112 : decode cX12_go 112 = .ok (.iaload, 1) := by decide +kernel
theorem d_X12_go_113 : decode cX12_go 113 = .ok (.iconst 1, 1) := by decide +kernel
theorem d_X12_go_114 : decode cX12_go 114 = .ok (.iadd, 1) := by decide +kernel
theorem d_X12_go_115 : decode cX12_go 115 = .ok (.goto 9, 3) := by decide +kernel
theorem d_X12_go_118 : decode cX12_go 118 = .ok (.aload_n 0, 1) := by decide +kernel
theorem d_X12_go_119 : decode cX12_go 119 = .ok (.getfield 50, 3) := by decide +kernel
theorem d_X12_go_122 : decode cX12_go 122 = .ok (.iload_n 3, 1) := by decide +kernel
theorem d_X12_go_123 : decode cX12_go 123 = .ok (.iaload, 1) := by decide +kernel
theorem d_X12_go_124 : decode cX12_go 124 = .ok (.invokevirtual 257, 3) := by decide +kernel
theorem d_X12_go_127 : decode cX12_go 127 = .ok (.iinc 3 1, 3) := by decide +kernel
theorem d_X12_go_130 : decode cX12_go 130 = .ok (.goto (-76), 3) := by decide +kernel
theorem d_X12_go_133 : decode cX12_go 133 = .ok (.iinc 2 1, 3) := by decide +kernel
theorem d_X12_go_136 : decode cX12_go 136 = .ok (.goto (-99), 3) := by decide +kernel
theorem d_X12_go_139 : decode cX12_go 139 = .ok (.aload_n 0, 1) := by decide +kernel
theorem d_X12_go_140 : decode cX12_go 140 = .ok (.aload_n 0, 1) := by decide +kernel
theorem d_X12_go_141 : decode cX12_go 141 = .ok (.getfield 184, 3) := by decide +kernel
theorem d_X12_go_144 : decode cX12_go 144 = .ok (.invokevirtual 191, 3) := by decide +kernel
theorem d_X12_go_147 : decode cX12_go 147 = .ok (.ireturn, 1) := by decide +kernel
theorem d_X12_knows_0 : decode cX12_knows 0 = .ok (.aload_n 0, 1) := by decide +kernel
theorem d_X12_knows_1 : decode cX12_knows 1 = .ok (.iload_n 1, 1) := by decide +kernel
theorem d_X12_knows_2 : decode cX12_knows 2 = .ok (.invokevirtual 238, 3) := by decide +kernel
theorem d_X12_knows_5 : decode cX12_knows 5 = .ok (.ifCond .eq 34, 3) := by decide +kernel
theorem d_X12_knows_8 : decode cX12_knows 8 = .ok (.aload_n 0, 1) := by decide +kernel
theorem d_X12_knows_9 : decode cX12_knows 9 = .ok (.iload_n 2, 1) := by decide +kernel
theorem d_X12_knows_10 : decode cX12_knows 10 = .ok (.invokevirtual 202, 3) := by decide +kernel
theorem d_X12_knows_13 : decode cX12_knows 13 = .ok (.ifCond .eq 26, 3) := by decide +kernel
theorem d_X12_knows_16 : decode cX12_knows 16 = .ok (.iload_n 3, 1) := by decide +kernel
theorem d_X12_knows_17 : decode cX12_knows 17 = .ok (.iconst 0, 1) := by decide +kernel
theorem d_X12_knows_18 : decode cX12_knows 18 = .ok (.iconst 1, 1) := by decide +kernel
theorem d_X12_knows_19 : decode cX12_knows 19 = .ok (.invokestatic 174, 3) := by decide +kernel
theorem d_X12_knows_22 : decode cX12_knows 22 = .ok (.ifCond .eq 17, 3) := by decide +kernel
theorem d_X12_knows_25 : decode cX12_knows 25 = .ok (.aload_n 0, 1) := by decide +kernel
theorem d_X12_knows_26 : decode cX12_knows 26 = .ok (.bipush 10, 2) := by decide +kernel
theorem d_X12_knows_28 : decode cX12_knows 28 = .ok (.iload_n 1, 1) := by decide +kernel
theorem d_X12_knows_29 : decode cX12_knows 29 = .ok (.imul, 1) := by decide +kernel
theorem d_X12_knows_30 : decode cX12_knows 30 = .ok (.iload_n 2, 1) := by decide +kernel
theorem d_X12_knows_31 : decode cX12_knows 31 = .ok (.iadd, 1) := by decide +kernel
theorem d_X12_knows_32 : decode cX12_knows 32 = .ok (.iload_n 3, 1) := by decide +kernel
theorem d_X12_knows_33 : decode cX12_knows 33 = .ok (.invokevirtual 260, 3) := by decide +kernel
theorem d_X12_knows_36 : decode cX12_knows 36 = .ok (.goto 6, 3) := by decide +kernel
theorem d_X12_knows_39 : decode cX12_knows 39 = .ok (.sipush (-1000), 3) := by decide +kernel
theorem d_X12_knows_42 : decode cX12_knows 42 = .ok (.ireturn, 1) := by decide +kernel
theorem d_X12_box_0 : decode cX12_box 0 = .ok (.aload_n 0, 1) := by decide +kernel
theorem d_X12_box_1 : decode cX12_box 1 = .ok (.iload_n 1, 1) := by decide +kernel
theorem d_X12_box_2 : decode cX12_box 2 = .ok (.invokevirtual 229, 3) := by decide +kernel
theorem d_X12_box_5 : decode cX12_box 5 = .ok (.ifCond .eq 36, 3) := by decide +kernel
theorem d_X12_box_8 : decode cX12_box 8 = .ok (.aload_n 0, 1) := by decide +kernel
theorem d_X12_box_9 : decode cX12_box 9 = .ok (.iload_n 2, 1) := by decide +kernel
theorem d_X12_box_10 : decode cX12_box 10 = .ok (.invokevirtual 202, 3) := by decide +kernel
theorem d_X12_box_13 : decode cX12_box 13 = .ok (.ifCond .eq 28, 3) := by decide +kernel
theorem d_X12_box_16 : decode cX12_box 16 = .ok (.iload_n 3, 1) := by decide +kernel
theorem d_X12_box_17 : decode cX12_box 17 = .ok (.iconst 0, 1) := by decide +kernel
theorem d_X12_box_18 : decode cX12_box 18 = .ok (.iconst 1, 1) := by decide +kernel
theorem d_X12_box_19 : decode cX12_box 19 = .ok (.invokestatic 174, 3) := by decide +kernel
theorem d_X12_box_22 : decode cX12_box 22 = .ok (.ifCond .eq 19, 3) := by decide +kernel
theorem d_X12_box_25 : decode cX12_box 25 = .ok (.aload_n 0, 1) := by decide +kernel
theorem d_X12_box_26 : decode cX12_box 26 = .ok (.bipush 10, 2) := by decide +kernel
theorem d_X12_box_28 : decode cX12_box 28 = .ok (.iconst 5, 1) := by decide +kernel
theorem d_X12_box_29 : decode cX12_box 29 = .ok (.iload_n 1, 1) := by decide +kernel
theorem d_X12_box_30 : decode cX12_box 30 = .ok (.iadd, 1) := by decide +kernel
theorem d_X12_box_31 : decode cX12_box 31 = .ok (.imul, 1) := by decide +kernel
theorem d_X12_box_32 : decode cX12_box 32 = .ok (.iload_n 2, 1) := by decide +kernel
theorem d_X12_box_33 : decode cX12_box 33 = .ok (.iadd, 1) := by decide +kernel
theorem d_X12_box_34 : decode cX12_box 34 = .ok (.iload_n 3, 1) := by decide +kernel
theorem d_X12_box_35 : decode cX12_box 35 = .ok (.invokevirtual 260, 3) := by decide +kernel
theorem d_X12_box_38 : decode cX12_box 38 = .ok (.goto 6, 3) := by decide +kernel
theorem d_X12_box_41 : decode cX12_box 41 = .ok (.sipush (-1000), 3) := by decide +kernel
theorem d_X12_box_44 : decode cX12_box 44 = .ok (.ireturn, 1) := by decide +kernel
theorem d_X12_word_0 : decode cX12_word 0 = .ok (.aload_n 0, 1) := by decide +kernel
theorem d_X12_word_1 : decode cX12_word 1 = .ok (.getfield 65, 3) := by decide +kernel
theorem d_X12_word_4 : decode cX12_word 4 = .ok (.iload_n 1, 1) := by decide +kernel
theorem d_X12_word_5 : decode cX12_word 5 = .ok (.iaload, 1) := by decide +kernel
theorem d_X12_word_6 : decode cX12_word 6 = .ok (.iconst (-1), 1) := by decide +kernel
theorem d_X12_word_7 : decode cX12_word 7 = .ok (.if_icmp .ne 9, 3) := by decide +kernel
theorem d_X12_word_10 : decode cX12_word 10 = .ok (.sipush (-1000), 3) := by decide +kernel
theorem d_X12_word_13 : decode cX12_word 13 = .ok (.goto 22, 3) := by decide +kernel
theorem d_X12_word_16 : decode cX12_word 16 = .ok (.iload_n 2, 1) := by decide +kernel
theorem d_X12_word_17 : decode cX12_word 17 = .ok (.ifCond .ne 12, 3) := by decide +kernel
theorem d_X12_word_20 : decode cX12_word 20 = .ok (.aload_n 0, 1) := by decide +kernel
theorem d_X12_word_21 : decode cX12_word 21 = .ok (.getfield 62, 3) := by decide +kernel
theorem d_X12_word_24 : decode cX12_word 24 = .ok (.iload_n 1, 1) := by decide +kernel
theorem d_X12_word_25 : decode cX12_word 25 = .ok (.iaload, 1) := by decide +kernel
theorem d_X12_word_26 : decode cX12_word 26 = .ok (.goto 9, 3) := by decide +kernel
theorem d_X12_word_29 : decode cX12_word 29 = .ok (.aload_n 0, 1) := by decide +kernel
theorem d_X12_word_30 : decode cX12_word 30 = .ok (.getfield 65, 3) := by decide +kernel
theorem d_X12_word_33 : decode cX12_word 33 = .ok (.iload_n 1, 1) := by decide +kernel
theorem d_X12_word_34 : decode cX12_word 34 = .ok (.iaload, 1) := by decide +kernel
theorem d_X12_word_35 : decode cX12_word 35 = .ok (.ireturn, 1) := by decide +kernel
theorem d_X12_boatTold_0 : decode cX12_boatTold 0 = .ok (.aload_n 0, 1) := by decide +kernel
theorem d_X12_boatTold_1 : decode cX12_boatTold 1 = .ok (.iload_n 1, 1) := by decide +kernel
theorem d_X12_boatTold_2 : decode cX12_boatTold 2 = .ok (.invokevirtual 238, 3) := by decide +kernel
theorem d_X12_boatTold_5 : decode cX12_boatTold 5 = .ok (.ifCond .eq 12, 3) := by decide +kernel
theorem d_X12_boatTold_8 : decode cX12_boatTold 8 = .ok (.iload_n 2, 1) := by decide +kernel
theorem d_X12_boatTold_9 : decode cX12_boatTold 9 = .ok (.iconst 0, 1) := by decide +kernel
theorem d_X12_boatTold_10 : decode cX12_boatTold 10 = .ok (.iconst 5, 1) := by decide +kernel
theorem d_X12_boatTold_11 : decode cX12_boatTold 11 = .ok (.invokestatic 174, 3) := by decide +kernel
theorem d_X12_boatTold_14 : decode cX12_boatTold 14 = .ok (.ifCond .ne 5, 3) := by decide +kernel
theorem d_X12_boatTold_17 : decode cX12_boatTold 17 = .ok (.iconst (-1), 1) := by decide +kernel
theorem d_X12_boatTold_18 : decode cX12_boatTold 18 = .ok (.ireturn, 1) := by decide +kernel
theorem d_X12_boatTold_19 : decode cX12_boatTold 19 = .ok (.iload_n 2, 1) := by decide +kernel
theorem d_X12_boatTold_20 : decode cX12_boatTold 20 = .ok (.ifCond .ne 12, 3) := by decide +kernel
theorem d_X12_boatTold_23 : decode cX12_boatTold 23 = .ok (.aload_n 0, 1) := by decide +kernel
theorem d_X12_boatTold_24 : decode cX12_boatTold 24 = .ok (.getfield 47, 3) := by decide +kernel
theorem d_X12_boatTold_27 : decode cX12_boatTold 27 = .ok (.iload_n 1, 1) := by decide +kernel
theorem d_X12_boatTold_28 : decode cX12_boatTold 28 = .ok (.iaload, 1) := by decide +kernel
theorem d_X12_boatTold_29 : decode cX12_boatTold 29 = .ok (.goto 63, 3) := by decide +kernel
theorem d_X12_boatTold_32 : decode cX12_boatTold 32 = .ok (.iload_n 2, 1) := by decide +kernel
theorem d_X12_boatTold_33 : decode cX12_boatTold 33 = .ok (.iconst 1, 1) := by decide +kernel
theorem d_X12_boatTold_34 : decode cX12_boatTold 34 = .ok (.if_icmp .ne 12, 3) := by decide +kernel
theorem d_X12_boatTold_37 : decode cX12_boatTold 37 = .ok (.aload_n 0, 1) := by decide +kernel
theorem d_X12_boatTold_38 : decode cX12_boatTold 38 = .ok (.getfield 50, 3) := by decide +kernel
theorem d_X12_boatTold_41 : decode cX12_boatTold 41 = .ok (.iload_n 1, 1) := by decide +kernel
theorem d_X12_boatTold_42 : decode cX12_boatTold 42 = .ok (.iaload, 1) := by decide +kernel
theorem d_X12_boatTold_43 : decode cX12_boatTold 43 = .ok (.goto 49, 3) := by decide +kernel
theorem d_X12_boatTold_46 : decode cX12_boatTold 46 = .ok (.iload_n 2, 1) := by decide +kernel
theorem d_X12_boatTold_47 : decode cX12_boatTold 47 = .ok (.iconst 2, 1) := by decide +kernel
theorem d_X12_boatTold_48 : decode cX12_boatTold 48 = .ok (.if_icmp .ne 12, 3) := by decide +kernel
theorem d_X12_boatTold_51 : decode cX12_boatTold 51 = .ok (.aload_n 0, 1) := by decide +kernel
theorem d_X12_boatTold_52 : decode cX12_boatTold 52 = .ok (.getfield 56, 3) := by decide +kernel
theorem d_X12_boatTold_55 : decode cX12_boatTold 55 = .ok (.iload_n 1, 1) := by decide +kernel
theorem d_X12_boatTold_56 : decode cX12_boatTold 56 = .ok (.iaload, 1) := by decide +kernel
theorem d_X12_boatTold_57 : decode cX12_boatTold 57 = .ok (.goto 35, 3) := by decide +kernel
theorem d_X12_boatTold_60 : decode cX12_boatTold 60 = .ok (.iload_n 2, 1) := by decide +kernel
theorem d_X12_boatTold_61 : decode cX12_boatTold 61 = .ok (.iconst 3, 1) := by decide +kernel
theorem d_X12_boatTold_62 : decode cX12_boatTold 62 = .ok (.if_icmp .ne 11, 3) := by decide +kernel
theorem d_X12_boatTold_65 : decode cX12_boatTold 65 = .ok (.aload_n 0, 1) := by decide +kernel
theorem d_X12_boatTold_66 : decode cX12_boatTold 66 = .ok (.iload_n 1, 1) := by decide +kernel
theorem d_X12_boatTold_67 : decode cX12_boatTold 67 = .ok (.invokevirtual 232, 3) := by decide +kernel
theorem d_X12_boatTold_70 : decode cX12_boatTold 70 = .ok (.goto 22, 3) := by decide +kernel
theorem d_X12_boatTold_73 : decode cX12_boatTold 73 = .ok (.iload_n 2, 1) := by decide +kernel
theorem d_X12_boatTold_74 : decode cX12_boatTold 74 = .ok (.iconst 4, 1) := by decide +kernel
theorem d_X12_boatTold_75 : decode cX12_boatTold 75 = .ok (.if_icmp .ne 11, 3) := by decide +kernel
theorem d_X12_boatTold_78 : decode cX12_boatTold 78 = .ok (.aload_n 0, 1) := by decide +kernel
theorem d_X12_boatTold_79 : decode cX12_boatTold 79 = .ok (.iload_n 1, 1) := by decide +kernel
theorem d_X12_boatTold_80 : decode cX12_boatTold 80 = .ok (.invokevirtual 241, 3) := by decide +kernel
theorem d_X12_boatTold_83 : decode cX12_boatTold 83 = .ok (.goto 9, 3) := by decide +kernel
theorem d_X12_boatTold_86 : decode cX12_boatTold 86 = .ok (.aload_n 0, 1) := by decide +kernel
theorem d_X12_boatTold_87 : decode cX12_boatTold 87 = .ok (.getfield 59, 3) := by decide +kernel
theorem d_X12_boatTold_90 : decode cX12_boatTold 90 = .ok (.iload_n 1, 1) := by decide +kernel
theorem d_X12_boatTold_91 : decode cX12_boatTold 91 = .ok (.iaload, 1) := by decide +kernel
theorem d_X12_boatTold_92 : decode cX12_boatTold 92 = .ok (.ireturn, 1) := by decide +kernel
end
section
theorem d_X12_baleTold_0 : decode cX12_baleTold 0 = .ok (.aload_n 0, 1) := by decide +kernel
theorem d_X12_baleTold_1 : decode cX12_baleTold 1 = .ok (.iload_n 1, 1) := by decide +kernel
theorem d_X12_baleTold_2 : decode cX12_baleTold 2 = .ok (.invokevirtual 235, 3) := by decide +kernel
theorem d_X12_baleTold_5 : decode cX12_baleTold 5 = .ok (.ifCond .eq 12, 3) := by decide +kernel
theorem d_X12_baleTold_8 : decode cX12_baleTold 8 = .ok (.iload_n 2, 1) := by decide +kernel
theorem d_X12_baleTold_9 : decode cX12_baleTold 9 = .ok (.iconst 0, 1) := by decide +kernel
theorem d_X12_baleTold_10 : decode cX12_baleTold 10 = .ok (.iconst 4, 1) := by decide +kernel
theorem d_X12_baleTold_11 : decode cX12_baleTold 11 = .ok (.invokestatic 174, 3) := by decide +kernel
theorem d_X12_baleTold_14 : decode cX12_baleTold 14 = .ok (.ifCond .ne 5, 3) := by decide +kernel
theorem d_X12_baleTold_17 : decode cX12_baleTold 17 = .ok (.iconst (-1), 1) := by decide +kernel
theorem d_X12_baleTold_18 : decode cX12_baleTold 18 = .ok (.ireturn, 1) := by decide +kernel
theorem d_X12_baleTold_19 : decode cX12_baleTold 19 = .ok (.iload_n 2, 1) := by decide +kernel
theorem d_X12_baleTold_20 : decode cX12_baleTold 20 = .ok (.ifCond .ne 12, 3) := by decide +kernel
theorem d_X12_baleTold_23 : decode cX12_baleTold 23 = .ok (.aload_n 0, 1) := by decide +kernel
theorem d_X12_baleTold_24 : decode cX12_baleTold 24 = .ok (.getfield 80, 3) := by decide +kernel
theorem d_X12_baleTold_27 : decode cX12_baleTold 27 = .ok (.iload_n 1, 1) := by decide +kernel
theorem d_X12_baleTold_28 : decode cX12_baleTold 28 = .ok (.iaload, 1) := by decide +kernel
theorem d_X12_baleTold_29 : decode cX12_baleTold 29 = .ok (.goto 51, 3) := by decide +kernel
theorem d_X12_baleTold_32 : decode cX12_baleTold 32 = .ok (.iload_n 2, 1) := by decide +kernel
theorem d_X12_baleTold_33 : decode cX12_baleTold 33 = .ok (.iconst 1, 1) := by decide +kernel
theorem d_X12_baleTold_34 : decode cX12_baleTold 34 = .ok (.if_icmp .ne 12, 3) := by decide +kernel
theorem d_X12_baleTold_37 : decode cX12_baleTold 37 = .ok (.aload_n 0, 1) := by decide +kernel
theorem d_X12_baleTold_38 : decode cX12_baleTold 38 = .ok (.getfield 83, 3) := by decide +kernel
theorem d_X12_baleTold_41 : decode cX12_baleTold 41 = .ok (.iload_n 1, 1) := by decide +kernel
theorem d_X12_baleTold_42 : decode cX12_baleTold 42 = .ok (.iaload, 1) := by decide +kernel
theorem d_X12_baleTold_43 : decode cX12_baleTold 43 = .ok (.goto 37, 3) := by decide +kernel
theorem d_X12_baleTold_46 : decode cX12_baleTold 46 = .ok (.iload_n 2, 1) := by decide +kernel
theorem d_X12_baleTold_47 : decode cX12_baleTold 47 = .ok (.iconst 2, 1) := by decide +kernel
theorem d_X12_baleTold_48 : decode cX12_baleTold 48 = .ok (.if_icmp .ne 12, 3) := by decide +kernel
theorem d_X12_baleTold_51 : decode cX12_baleTold 51 = .ok (.aload_n 0, 1) := by decide +kernel
theorem d_X12_baleTold_52 : decode cX12_baleTold 52 = .ok (.getfield 71, 3) := by decide +kernel
theorem d_X12_baleTold_55 : decode cX12_baleTold 55 = .ok (.iload_n 1, 1) := by decide +kernel
theorem d_X12_baleTold_56 : decode cX12_baleTold 56 = .ok (.iaload, 1) := by decide +kernel
theorem d_X12_baleTold_57 : decode cX12_baleTold 57 = .ok (.goto 23, 3) := by decide +kernel
theorem d_X12_baleTold_60 : decode cX12_baleTold 60 = .ok (.iload_n 2, 1) := by decide +kernel
theorem d_X12_baleTold_61 : decode cX12_baleTold 61 = .ok (.iconst 3, 1) := by decide +kernel
theorem d_X12_baleTold_62 : decode cX12_baleTold 62 = .ok (.if_icmp .ne 12, 3) := by decide +kernel
theorem d_X12_baleTold_65 : decode cX12_baleTold 65 = .ok (.aload_n 0, 1) := by decide +kernel
theorem d_X12_baleTold_66 : decode cX12_baleTold 66 = .ok (.getfield 74, 3) := by decide +kernel
theorem d_X12_baleTold_69 : decode cX12_baleTold 69 = .ok (.iload_n 1, 1) := by decide +kernel
theorem d_X12_baleTold_70 : decode cX12_baleTold 70 = .ok (.iaload, 1) := by decide +kernel
theorem d_X12_baleTold_71 : decode cX12_baleTold 71 = .ok (.goto 9, 3) := by decide +kernel
theorem d_X12_baleTold_74 : decode cX12_baleTold 74 = .ok (.aload_n 0, 1) := by decide +kernel
theorem d_X12_baleTold_75 : decode cX12_baleTold 75 = .ok (.getfield 77, 3) := by decide +kernel
theorem d_X12_baleTold_78 : decode cX12_baleTold 78 = .ok (.iload_n 1, 1) := by decide +kernel
theorem d_X12_baleTold_79 : decode cX12_baleTold 79 = .ok (.iaload, 1) := by decide +kernel
theorem d_X12_baleTold_80 : decode cX12_baleTold 80 = .ok (.ireturn, 1) := by decide +kernel
theorem d_X12_sumOf_0 : decode cX12_sumOf 0 = .ok (.iconst 0, 1) := by decide +kernel
theorem d_X12_sumOf_1 : decode cX12_sumOf 1 = .ok (.istore_n 3, 1) := by decide +kernel
theorem d_X12_sumOf_2 : decode cX12_sumOf 2 = .ok (.iconst 0, 1) := by decide +kernel
theorem d_X12_sumOf_3 : decode cX12_sumOf 3 = .ok (.istore 4, 2) := by decide +kernel
theorem d_X12_sumOf_5 : decode cX12_sumOf 5 = .ok (.iload 4, 2) := by decide +kernel
theorem d_X12_sumOf_7 : decode cX12_sumOf 7 = .ok (.aload_n 0, 1) := by decide +kernel
theorem d_X12_sumOf_8 : decode cX12_sumOf 8 = .ok (.getfield 181, 3) := by decide +kernel
theorem d_X12_sumOf_11 : decode cX12_sumOf 11 = .ok (.if_icmp .ge 46, 3) := by decide +kernel
theorem d_X12_sumOf_14 : decode cX12_sumOf 14 = .ok (.iload_n 3, 1) := by decide +kernel
theorem d_X12_sumOf_15 : decode cX12_sumOf 15 = .ok (.iload_n 1, 1) := by decide +kernel
theorem d_X12_sumOf_16 : decode cX12_sumOf 16 = .ok (.iload 4, 2) := by decide +kernel
theorem d_X12_sumOf_18 : decode cX12_sumOf 18 = .ok (.ishr, 1) := by decide +kernel
theorem d_X12_sumOf_19 : decode cX12_sumOf 19 = .ok (.iconst 1, 1) := by decide +kernel
theorem d_X12_sumOf_20 : decode cX12_sumOf 20 = .ok (.iand, 1) := by decide +kernel
theorem d_X12_sumOf_21 : decode cX12_sumOf 21 = .ok (.ifCond .ne 7, 3) := by decide +kernel
theorem d_X12_sumOf_24 : decode cX12_sumOf 24 = .ok (.iconst 0, 1) := by decide +kernel
theorem d_X12_sumOf_25 : decode cX12_sumOf 25 = .ok (.goto 24, 3) := by decide +kernel
theorem d_X12_sumOf_28 : decode cX12_sumOf 28 = .ok (.iload_n 2, 1) := by decide +kernel
theorem d_X12_sumOf_29 : decode cX12_sumOf 29 = .ok (.ifCond .eq 13, 3) := by decide +kernel
theorem d_X12_sumOf_32 : decode cX12_sumOf 32 = .ok (.aload_n 0, 1) := by decide +kernel
theorem d_X12_sumOf_33 : decode cX12_sumOf 33 = .ok (.getfield 77, 3) := by decide +kernel
theorem d_X12_sumOf_36 : decode cX12_sumOf 36 = .ok (.iload 4, 2) := by decide +kernel
theorem d_X12_sumOf_38 : decode cX12_sumOf 38 = .ok (.iaload, 1) := by decide +kernel
theorem d_X12_sumOf_39 : decode cX12_sumOf 39 = .ok (.goto 10, 3) := by decide +kernel
theorem d_X12_sumOf_42 : decode cX12_sumOf 42 = .ok (.aload_n 0, 1) := by decide +kernel
theorem d_X12_sumOf_43 : decode cX12_sumOf 43 = .ok (.getfield 74, 3) := by decide +kernel
theorem d_X12_sumOf_46 : decode cX12_sumOf 46 = .ok (.iload 4, 2) := by decide +kernel
theorem d_X12_sumOf_48 : decode cX12_sumOf 48 = .ok (.iaload, 1) := by decide +kernel
theorem d_X12_sumOf_49 : decode cX12_sumOf 49 = .ok (.iadd, 1) := by decide +kernel
theorem d_X12_sumOf_50 : decode cX12_sumOf 50 = .ok (.istore_n 3, 1) := by decide +kernel
theorem d_X12_sumOf_51 : decode cX12_sumOf 51 = .ok (.iinc 4 1, 3) := by decide +kernel
theorem d_X12_sumOf_54 : decode cX12_sumOf 54 = .ok (.goto (-49), 3) := by decide +kernel
theorem d_X12_sumOf_57 : decode cX12_sumOf 57 = .ok (.iload_n 3, 1) := by decide +kernel
theorem d_X12_sumOf_58 : decode cX12_sumOf 58 = .ok (.ireturn, 1) := by decide +kernel
theorem d_X12_lading_0 : decode cX12_lading 0 = .ok (.aload_n 0, 1) := by decide +kernel
theorem d_X12_lading_1 : decode cX12_lading 1 = .ok (.iload_n 1, 1) := by decide +kernel
theorem d_X12_lading_2 : decode cX12_lading 2 = .ok (.invokevirtual 238, 3) := by decide +kernel
theorem d_X12_lading_5 : decode cX12_lading 5 = .ok (.ifCond .eq 21, 3) := by decide +kernel
theorem d_X12_lading_8 : decode cX12_lading 8 = .ok (.aload_n 0, 1) := by decide +kernel
theorem d_X12_lading_9 : decode cX12_lading 9 = .ok (.getfield 47, 3) := by decide +kernel
theorem d_X12_lading_12 : decode cX12_lading 12 = .ok (.iload_n 1, 1) := by decide +kernel
theorem d_X12_lading_13 : decode cX12_lading 13 = .ok (.iaload, 1) := by decide +kernel
theorem d_X12_lading_14 : decode cX12_lading 14 = .ok (.ifCond .ne 12, 3) := by decide +kernel
theorem d_X12_lading_17 : decode cX12_lading 17 = .ok (.aload_n 0, 1) := by decide +kernel
theorem d_X12_lading_18 : decode cX12_lading 18 = .ok (.iload_n 1, 1) := by decide +kernel
theorem d_X12_lading_19 : decode cX12_lading 19 = .ok (.invokevirtual 241, 3) := by decide +kernel
theorem d_X12_lading_22 : decode cX12_lading 22 = .ok (.iload_n 2, 1) := by decide +kernel
theorem d_X12_lading_23 : decode cX12_lading 23 = .ok (.if_icmp .le 5, 3) := by decide +kernel
theorem d_X12_lading_26 : decode cX12_lading 26 = .ok (.iconst (-1), 1) := by decide +kernel
theorem d_X12_lading_27 : decode cX12_lading 27 = .ok (.ireturn, 1) := by decide +kernel
theorem d_X12_lading_28 : decode cX12_lading 28 = .ok (.iconst 0, 1) := by decide +kernel
theorem d_X12_lading_29 : decode cX12_lading 29 = .ok (.istore_n 3, 1) := by decide +kernel
theorem d_X12_lading_30 : decode cX12_lading 30 = .ok (.iconst 0, 1) := by decide +kernel
theorem d_X12_lading_31 : decode cX12_lading 31 = .ok (.istore 4, 2) := by decide +kernel
theorem d_X12_lading_33 : decode cX12_lading 33 = .ok (.iload 4, 2) := by decide +kernel
theorem d_X12_lading_35 : decode cX12_lading 35 = .ok (.aload_n 0, 1) := by decide +kernel
theorem d_X12_lading_36 : decode cX12_lading 36 = .ok (.getfield 181, 3) := by decide +kernel
theorem d_X12_lading_39 : decode cX12_lading 39 = .ok (.if_icmp .ge 62, 3) := by decide +kernel
theorem d_X12_lading_42 : decode cX12_lading 42 = .ok (.iload_n 3, 1) := by decide +kernel
theorem d_X12_lading_43 : decode cX12_lading 43 = .ok (.aload_n 0, 1) := by decide +kernel
theorem d_X12_lading_44 : decode cX12_lading 44 = .ok (.getfield 80, 3) := by decide +kernel
theorem d_X12_lading_47 : decode cX12_lading 47 = .ok (.iload 4, 2) := by decide +kernel
theorem d_X12_lading_49 : decode cX12_lading 49 = .ok (.iaload, 1) := by decide +kernel
theorem d_X12_lading_50 : decode cX12_lading 50 = .ok (.ifCond .ne 42, 3) := by decide +kernel
theorem d_X12_lading_53 : decode cX12_lading 53 = .ok (.aload_n 0, 1) := by decide +kernel
theorem d_X12_lading_54 : decode cX12_lading 54 = .ok (.getfield 83, 3) := by decide +kernel
theorem d_X12_lading_57 : decode cX12_lading 57 = .ok (.iload 4, 2) := by decide +kernel
theorem d_X12_lading_59 : decode cX12_lading 59 = .ok (.iaload, 1) := by decide +kernel
theorem d_X12_lading_60 : decode cX12_lading 60 = .ok (.aload_n 0, 1) := by decide +kernel
theorem d_X12_lading_61 : decode cX12_lading 61 = .ok (.getfield 50, 3) := by decide +kernel
theorem d_X12_lading_64 : decode cX12_lading 64 = .ok (.iload_n 1, 1) := by decide +kernel
theorem d_X12_lading_65 : decode cX12_lading 65 = .ok (.iaload, 1) := by decide +kernel
theorem d_X12_lading_66 : decode cX12_lading 66 = .ok (.if_icmp .ne 26, 3) := by decide +kernel
theorem d_X12_lading_69 : decode cX12_lading 69 = .ok (.aload_n 0, 1) := by decide +kernel
theorem d_X12_lading_70 : decode cX12_lading 70 = .ok (.getfield 71, 3) := by decide +kernel
theorem d_X12_lading_73 : decode cX12_lading 73 = .ok (.iload 4, 2) := by decide +kernel
theorem d_X12_lading_75 : decode cX12_lading 75 = .ok (.iaload, 1) := by decide +kernel
theorem d_X12_lading_76 : decode cX12_lading 76 = .ok (.aload_n 0, 1) := by decide +kernel
theorem d_X12_lading_77 : decode cX12_lading 77 = .ok (.getfield 50, 3) := by decide +kernel
theorem d_X12_lading_80 : decode cX12_lading 80 = .ok (.iload_n 1, 1) := by decide +kernel
theorem d_X12_lading_81 : decode cX12_lading 81 = .ok (.iaload, 1) := by decide +kernel
theorem d_X12_lading_82 : decode cX12_lading 82 = .ok (.if_icmp .eq 10, 3) := by decide +kernel
theorem d_X12_lading_85 : decode cX12_lading 85 = .ok (.iconst 1, 1) := by decide +kernel
theorem d_X12_lading_86 : decode cX12_lading 86 = .ok (.iload 4, 2) := by decide +kernel
theorem d_X12_lading_88 : decode cX12_lading 88 = .ok (.ishl, 1) := by decide +kernel
theorem d_X12_lading_89 : decode cX12_lading 89 = .ok (.goto 4, 3) := by decide +kernel
theorem d_X12_lading_92 : decode cX12_lading 92 = .ok (.iconst 0, 1) := by decide +kernel
theorem d_X12_lading_93 : decode cX12_lading 93 = .ok (.ior, 1) := by decide +kernel
theorem d_X12_lading_94 : decode cX12_lading 94 = .ok (.istore_n 3, 1) := by decide +kernel
theorem d_X12_lading_95 : decode cX12_lading 95 = .ok (.iinc 4 1, 3) := by decide +kernel
theorem d_X12_lading_98 : decode cX12_lading 98 = .ok (.goto (-65), 3) := by decide +kernel
theorem d_X12_lading_101 : decode cX12_lading 101 = .ok (.aload_n 0, 1) := by decide +kernel
theorem d_X12_lading_102 : decode cX12_lading 102 = .ok (.iload_n 1, 1) := by decide +kernel
theorem d_X12_lading_103 : decode cX12_lading 103 = .ok (.invokevirtual 232, 3) := by decide +kernel
theorem d_X12_lading_106 : decode cX12_lading 106 = .ok (.istore 4, 2) := by decide +kernel
theorem d_X12_lading_108 : decode cX12_lading 108 = .ok (.iconst 0, 1) := by decide +kernel
theorem d_X12_lading_109 : decode cX12_lading 109 = .ok (.istore 5, 2) := by decide +kernel
theorem d_X12_lading_111 : decode cX12_lading 111 = .ok (.iconst 1, 1) := by decide +kernel
theorem d_X12_lading_112 : decode cX12_lading 112 = .ok (.istore 6, 2) := by decide +kernel
theorem d_X12_lading_114 : decode cX12_lading 114 = .ok (.iload 6, 2) := by decide +kernel
theorem d_X12_lading_116 : decode cX12_lading 116 = .ok (.iconst 1, 1) := by decide +kernel
theorem d_X12_lading_117 : decode cX12_lading 117 = .ok (.aload_n 0, 1) := by decide +kernel
theorem d_X12_lading_118 : decode cX12_lading 118 = .ok (.getfield 181, 3) := by decide +kernel
theorem d_X12_lading_121 : decode cX12_lading 121 = .ok (.ishl, 1) := by decide +kernel
theorem d_X12_lading_122 : decode cX12_lading 122 = .ok (.if_icmp .ge 108, 3) := by decide +kernel
theorem d_X12_lading_125 : decode cX12_lading 125 = .ok (.iload 6, 2) := by decide +kernel
theorem d_X12_lading_127 : decode cX12_lading 127 = .ok (.iload_n 3, 1) := by decide +kernel
theorem d_X12_lading_128 : decode cX12_lading 128 = .ok (.iconst (-1), 1) := by decide +kernel
theorem d_X12_lading_129 : decode cX12_lading 129 = .ok (.ixor, 1) := by decide +kernel
theorem d_X12_lading_130 : decode cX12_lading 130 = .ok (.iand, 1) := by decide +kernel
theorem d_X12_lading_131 : decode cX12_lading 131 = .ok (.ifCond .ne 93, 3) := by decide +kernel
theorem d_X12_lading_134 : decode cX12_lading 134 = .ok (.iload 4, 2) := by decide +kernel
theorem d_X12_lading_136 : decode cX12_lading 136 = .ok (.aload_n 0, 1) := by decide +kernel
theorem d_X12_lading_137 : decode cX12_lading 137 = .ok (.iload 6, 2) := by decide +kernel
theorem d_X12_lading_139 : decode cX12_lading 139 = .ok (.iconst 0, 1) := by decide +kernel
theorem d_X12_lading_140 : decode cX12_lading 140 = .ok (.invokevirtual 263, 3) := by decide +kernel
theorem d_X12_lading_143 : decode cX12_lading 143 = .ok (.iadd, 1) := by decide +kernel
theorem d_X12_lading_144 : decode cX12_lading 144 = .ok (.istore 7, 2) := by decide +kernel
theorem d_X12_lading_146 : decode cX12_lading 146 = .ok (.iload 7, 2) := by decide +kernel
theorem d_X12_lading_148 : decode cX12_lading 148 = .ok (.aload_n 0, 1) := by decide +kernel
theorem d_X12_lading_149 : decode cX12_lading 149 = .ok (.getfield 41, 3) := by decide +kernel
theorem d_X12_lading_152 : decode cX12_lading 152 = .ok (.iload_n 1, 1) := by decide +kernel
theorem d_X12_lading_153 : decode cX12_lading 153 = .ok (.iaload, 1) := by decide +kernel
theorem d_X12_lading_154 : decode cX12_lading 154 = .ok (.if_icmp .gt 70, 3) := by decide +kernel
theorem d_X12_lading_157 : decode cX12_lading 157 = .ok (.aload_n 0, 1) := by decide +kernel
theorem d_X12_lading_158 : decode cX12_lading 158 = .ok (.getfield 38, 3) := by decide +kernel
theorem d_X12_lading_161 : decode cX12_lading 161 = .ok (.iload_n 1, 1) := by decide +kernel
theorem d_X12_lading_162 : decode cX12_lading 162 = .ok (.iaload, 1) := by decide +kernel
theorem d_X12_lading_163 : decode cX12_lading 163 = .ok (.iload 7, 2) := by decide +kernel
theorem d_X12_lading_165 : decode cX12_lading 165 = .ok (.bipush 10, 2) := by decide +kernel
theorem d_X12_lading_167 : decode cX12_lading 167 = .ok (.idiv, 1) := by decide +kernel
theorem d_X12_lading_168 : decode cX12_lading 168 = .ok (.iadd, 1) := by decide +kernel
theorem d_X12_lading_169 : decode cX12_lading 169 = .ok (.iload_n 2, 1) := by decide +kernel
theorem d_X12_lading_170 : decode cX12_lading 170 = .ok (.if_icmp .gt 54, 3) := by decide +kernel
theorem d_X12_lading_173 : decode cX12_lading 173 = .ok (.aload_n 0, 1) := by decide +kernel
theorem d_X12_lading_174 : decode cX12_lading 174 = .ok (.iload 6, 2) := by decide +kernel
theorem d_X12_lading_176 : decode cX12_lading 176 = .ok (.iconst 1, 1) := by decide +kernel
theorem d_X12_lading_177 : decode cX12_lading 177 = .ok (.invokevirtual 263, 3) := by decide +kernel
theorem d_X12_lading_180 : decode cX12_lading 180 = .ok (.aload_n 0, 1) := by decide +kernel
theorem d_X12_lading_181 : decode cX12_lading 181 = .ok (.iload 5, 2) := by decide +kernel
theorem d_X12_lading_183 : decode cX12_lading 183 = .ok (.iconst 1, 1) := by decide +kernel
theorem d_X12_lading_184 : decode cX12_lading 184 = .ok (.invokevirtual 263, 3) := by decide +kernel
theorem d_X12_lading_187 : decode cX12_lading 187 = .ok (.isub, 1) := by decide +kernel
theorem d_X12_lading_188 : decode cX12_lading 188 = .ok (.istore 8, 2) := by decide +kernel
theorem d_X12_lading_190 : decode cX12_lading 190 = .ok (.iload 8, 2) := by decide +kernel
theorem d_X12_lading_192 : decode cX12_lading 192 = .ok (.ifCond .gt 23, 3) := by decide +kernel
theorem d_X12_lading_195 : decode cX12_lading 195 = .ok (.iload 8, 2) := by decide +kernel
theorem d_X12_lading_197 : decode cX12_lading 197 = .ok (.ifCond .ne 23, 3) := by decide +kernel
theorem d_X12_lading_200 : decode cX12_lading 200 = .ok (.iload 7, 2) := by decide +kernel
theorem d_X12_lading_202 : decode cX12_lading 202 = .ok (.iload 4, 2) := by decide +kernel
theorem d_X12_lading_204 : decode cX12_lading 204 = .ok (.isub, 1) := by decide +kernel
theorem d_X12_lading_205 : decode cX12_lading 205 = .ok (.aload_n 0, 1) := by decide +kernel
theorem d_X12_lading_206 : decode cX12_lading 206 = .ok (.iload 5, 2) := by decide +kernel
theorem d_X12_lading_208 : decode cX12_lading 208 = .ok (.iconst 0, 1) := by decide +kernel
theorem d_X12_lading_209 : decode cX12_lading 209 = .ok (.invokevirtual 263, 3) := by decide +kernel
theorem d_X12_lading_212 : decode cX12_lading 212 = .ok (.if_icmp .ge 8, 3) := by decide +kernel
theorem d_X12_lading_215 : decode cX12_lading 215 = .ok (.iload 6, 2) := by decide +kernel
theorem d_X12_lading_217 : decode cX12_lading 217 = .ok (.goto 5, 3) := by decide +kernel
theorem d_X12_lading_220 : decode cX12_lading 220 = .ok (.iload 5, 2) := by decide +kernel
theorem d_X12_lading_222 : decode cX12_lading 222 = .ok (.istore 5, 2) := by decide +kernel
theorem d_X12_lading_224 : decode cX12_lading 224 = .ok (.iinc 6 1, 3) := by decide +kernel
theorem d_X12_lading_227 : decode cX12_lading 227 = .ok (.goto (-113), 3) := by decide +kernel
theorem d_X12_lading_230 : decode cX12_lading 230 = .ok (.iload 5, 2) := by decide +kernel
theorem d_X12_lading_232 : decode cX12_lading 232 = .ok (.ireturn, 1) := by decide +kernel
theorem d_X12_yard_0 : decode cX12_yard 0 = .ok (.aload_n 0, 1) := by decide +kernel
theorem d_X12_yard_1 : decode cX12_yard 1 = .ok (.iload_n 1, 1) := by decide +kernel
theorem d_X12_yard_2 : decode cX12_yard 2 = .ok (.invokevirtual 229, 3) := by decide +kernel
theorem d_X12_yard_5 : decode cX12_yard 5 = .ok (.ifCond .eq 13, 3) := by decide +kernel
theorem d_X12_yard_8 : decode cX12_yard 8 = .ok (.iload_n 2, 1) := by decide +kernel
theorem d_X12_yard_9 : decode cX12_yard 9 = .ok (.iconst 0, 1) := by decide +kernel
theorem d_X12_yard_10 : decode cX12_yard 10 = .ok (.bipush 99, 2) := by decide +kernel
theorem d_X12_yard_12 : decode cX12_yard 12 = .ok (.invokestatic 174, 3) := by decide +kernel
theorem d_X12_yard_15 : decode cX12_yard 15 = .ok (.ifCond .ne 9, 3) := by decide +kernel
theorem d_X12_yard_18 : decode cX12_yard 18 = .ok (.aload_n 0, 1) := by decide +kernel
theorem d_X12_yard_19 : decode cX12_yard 19 = .ok (.iconst 1, 1) := by decide +kernel
theorem d_X12_yard_20 : decode cX12_yard 20 = .ok (.invokevirtual 187, 3) := by decide +kernel
theorem d_X12_yard_23 : decode cX12_yard 23 = .ok (.ireturn, 1) := by decide +kernel
theorem d_X12_yard_24 : decode cX12_yard 24 = .ok (.aload_n 0, 1) := by decide +kernel
theorem d_X12_yard_25 : decode cX12_yard 25 = .ok (.getfield 68, 3) := by decide +kernel
theorem d_X12_yard_28 : decode cX12_yard 28 = .ok (.iload_n 1, 1) := by decide +kernel
theorem d_X12_yard_29 : decode cX12_yard 29 = .ok (.iaload, 1) := by decide +kernel
theorem d_X12_yard_30 : decode cX12_yard 30 = .ok (.istore_n 3, 1) := by decide +kernel
theorem d_X12_yard_31 : decode cX12_yard 31 = .ok (.aload_n 0, 1) := by decide +kernel
theorem d_X12_yard_32 : decode cX12_yard 32 = .ok (.getfield 68, 3) := by decide +kernel
theorem d_X12_yard_35 : decode cX12_yard 35 = .ok (.iload_n 1, 1) := by decide +kernel
theorem d_X12_yard_36 : decode cX12_yard 36 = .ok (.iload_n 2, 1) := by decide +kernel
theorem d_X12_yard_37 : decode cX12_yard 37 = .ok (.iastore, 1) := by decide +kernel
theorem d_X12_yard_38 : decode cX12_yard 38 = .ok (.aload_n 0, 1) := by decide +kernel
theorem d_X12_yard_39 : decode cX12_yard 39 = .ok (.iload_n 3, 1) := by decide +kernel
theorem d_X12_yard_40 : decode cX12_yard 40 = .ok (.invokevirtual 191, 3) := by decide +kernel
theorem d_X12_yard_43 : decode cX12_yard 43 = .ok (.ireturn, 1) := by decide +kernel
theorem d_X12_wood_0 : decode cX12_wood 0 = .ok (.aload_n 0, 1) := by decide +kernel
theorem d_X12_wood_1 : decode cX12_wood 1 = .ok (.iload_n 1, 1) := by decide +kernel
theorem d_X12_wood_2 : decode cX12_wood 2 = .ok (.invokevirtual 238, 3) := by decide +kernel
theorem d_X12_wood_5 : decode cX12_wood 5 = .ok (.ifCond .eq 13, 3) := by decide +kernel
theorem d_X12_wood_8 : decode cX12_wood 8 = .ok (.iload_n 2, 1) := by decide +kernel
theorem d_X12_wood_9 : decode cX12_wood 9 = .ok (.iconst 1, 1) := by decide +kernel
theorem d_X12_wood_10 : decode cX12_wood 10 = .ok (.bipush 99, 2) := by decide +kernel
theorem d_X12_wood_12 : decode cX12_wood 12 = .ok (.invokestatic 174, 3) := by decide +kernel
theorem d_X12_wood_15 : decode cX12_wood 15 = .ok (.ifCond .ne 9, 3) := by decide +kernel
theorem d_X12_wood_18 : decode cX12_wood 18 = .ok (.aload_n 0, 1) := by decide +kernel
theorem d_X12_wood_19 : decode cX12_wood 19 = .ok (.iconst 1, 1) := by decide +kernel
theorem d_X12_wood_20 : decode cX12_wood 20 = .ok (.invokevirtual 187, 3) := by decide +kernel
theorem d_X12_wood_23 : decode cX12_wood 23 = .ok (.ireturn, 1) := by decide +kernel
theorem d_X12_wood_24 : decode cX12_wood 24 = .ok (.aload_n 0, 1) := by decide +kernel
theorem d_X12_wood_25 : decode cX12_wood 25 = .ok (.getfield 47, 3) := by decide +kernel
theorem d_X12_wood_28 : decode cX12_wood 28 = .ok (.iload_n 1, 1) := by decide +kernel
theorem d_X12_wood_29 : decode cX12_wood 29 = .ok (.iaload, 1) := by decide +kernel
theorem d_X12_wood_30 : decode cX12_wood 30 = .ok (.ifCond .ne 34, 3) := by decide +kernel
theorem d_X12_wood_33 : decode cX12_wood 33 = .ok (.aload_n 0, 1) := by decide +kernel
theorem d_X12_wood_34 : decode cX12_wood 34 = .ok (.getfield 68, 3) := by decide +kernel
theorem d_X12_wood_37 : decode cX12_wood 37 = .ok (.aload_n 0, 1) := by decide +kernel
theorem d_X12_wood_38 : decode cX12_wood 38 = .ok (.getfield 50, 3) := by decide +kernel
theorem d_X12_wood_41 : decode cX12_wood 41 = .ok (.iload_n 1, 1) := by decide +kernel
theorem d_X12_wood_42 : decode cX12_wood 42 = .ok (.iaload, 1) := by decide +kernel
theorem d_X12_wood_43 : decode cX12_wood 43 = .ok (.iaload, 1) := by decide +kernel
theorem d_X12_wood_44 : decode cX12_wood 44 = .ok (.ifCond .eq 20, 3) := by decide +kernel
theorem d_X12_wood_47 : decode cX12_wood 47 = .ok (.iload_n 2, 1) := by decide +kernel
theorem d_X12_wood_48 : decode cX12_wood 48 = .ok (.aload_n 0, 1) := by decide +kernel
theorem d_X12_wood_49 : decode cX12_wood 49 = .ok (.getfield 44, 3) := by decide +kernel
theorem d_X12_wood_52 : decode cX12_wood 52 = .ok (.iload_n 1, 1) := by decide +kernel
theorem d_X12_wood_53 : decode cX12_wood 53 = .ok (.iaload, 1) := by decide +kernel
theorem d_X12_wood_54 : decode cX12_wood 54 = .ok (.aload_n 0, 1) := by decide +kernel
theorem d_X12_wood_55 : decode cX12_wood 55 = .ok (.getfield 59, 3) := by decide +kernel
theorem d_X12_wood_58 : decode cX12_wood 58 = .ok (.iload_n 1, 1) := by decide +kernel
theorem d_X12_wood_59 : decode cX12_wood 59 = .ok (.iaload, 1) := by decide +kernel
theorem d_X12_wood_60 : decode cX12_wood 60 = .ok (.isub, 1) := by decide +kernel
theorem d_X12_wood_61 : decode cX12_wood 61 = .ok (.if_icmp .le 9, 3) := by decide +kernel
theorem d_X12_wood_64 : decode cX12_wood 64 = .ok (.aload_n 0, 1) := by decide +kernel
theorem d_X12_wood_65 : decode cX12_wood 65 = .ok (.iconst 3, 1) := by decide +kernel
theorem d_X12_wood_66 : decode cX12_wood 66 = .ok (.invokevirtual 187, 3) := by decide +kernel
theorem d_X12_wood_69 : decode cX12_wood 69 = .ok (.ireturn, 1) := by decide +kernel
theorem d_X12_wood_70 : decode cX12_wood 70 = .ok (.aload_n 0, 1) := by decide +kernel
theorem d_X12_wood_71 : decode cX12_wood 71 = .ok (.getfield 59, 3) := by decide +kernel
theorem d_X12_wood_74 : decode cX12_wood 74 = .ok (.iload_n 1, 1) := by decide +kernel
theorem d_X12_wood_75 : decode cX12_wood 75 = .ok (.dup2, 1) := by decide +kernel
theorem d_X12_wood_76 : decode cX12_wood 76 = .ok (.iaload, 1) := by decide +kernel
theorem d_X12_wood_77 : decode cX12_wood 77 = .ok (.iload_n 2, 1) := by decide +kernel
theorem d_X12_wood_78 : decode cX12_wood 78 = .ok (.iadd, 1) := by decide +kernel
theorem d_X12_wood_79 : decode cX12_wood 79 = .ok (.iastore, 1) := by decide +kernel
theorem d_X12_wood_80 : decode cX12_wood 80 = .ok (.aload_n 0, 1) := by decide +kernel
theorem d_X12_wood_81 : decode cX12_wood 81 = .ok (.aload_n 0, 1) := by decide +kernel
theorem d_X12_wood_82 : decode cX12_wood 82 = .ok (.getfield 59, 3) := by decide +kernel
theorem d_X12_wood_85 : decode cX12_wood 85 = .ok (.iload_n 1, 1) := by decide +kernel
theorem d_X12_wood_86 : decode cX12_wood 86 = .ok (.iaload, 1) := by decide +kernel
theorem d_X12_wood_87 : decode cX12_wood 87 = .ok (.invokevirtual 191, 3) := by decide +kernel
theorem d_X12_wood_90 : decode cX12_wood 90 = .ok (.ireturn, 1) := by decide +kernel
theorem d_X12_landingOf_0 : decode cX12_landingOf 0 = .ok (.iload_n 0, 1) := by decide +kernel
theorem d_X12_landingOf_1 : decode cX12_landingOf 1 = .ok (.iload_n 1, 1) := by decide +kernel
theorem d_X12_landingOf_2 : decode cX12_landingOf 2 = .ok (.if_icmp .ge 9, 3) := by decide +kernel
theorem d_X12_landingOf_5 : decode cX12_landingOf 5 = .ok (.iload_n 0, 1) := by decide +kernel
theorem d_X12_landingOf_6 : decode cX12_landingOf 6 = .ok (.iload_n 2, 1) := by decide +kernel
theorem d_X12_landingOf_7 : decode cX12_landingOf 7 = .ok (.iadd, 1) := by decide +kernel
theorem d_X12_landingOf_8 : decode cX12_landingOf 8 = .ok (.goto 6, 3) := by decide +kernel
theorem d_X12_landingOf_11 : decode cX12_landingOf 11 = .ok (.iload_n 0, 1) := by decide +kernel
theorem d_X12_landingOf_12 : decode cX12_landingOf 12 = .ok (.iload_n 2, 1) := by decide +kernel
theorem d_X12_landingOf_13 : decode cX12_landingOf 13 = .ok (.isub, 1) := by decide +kernel
theorem d_X12_landingOf_14 : decode cX12_landingOf 14 = .ok (.ireturn, 1) := by decide +kernel
theorem d_X12_stretchOf_0 : decode cX12_stretchOf 0 = .ok (.iload_n 0, 1) := by decide +kernel
theorem d_X12_stretchOf_1 : decode cX12_stretchOf 1 = .ok (.iload_n 1, 1) := by decide +kernel
theorem d_X12_stretchOf_2 : decode cX12_stretchOf 2 = .ok (.if_icmp .ge 9, 3) := by decide +kernel
theorem d_X12_stretchOf_5 : decode cX12_stretchOf 5 = .ok (.iload_n 0, 1) := by decide +kernel
theorem d_X12_stretchOf_6 : decode cX12_stretchOf 6 = .ok (.iload_n 2, 1) := by decide +kernel
theorem d_X12_stretchOf_7 : decode cX12_stretchOf 7 = .ok (.iadd, 1) := by decide +kernel
theorem d_X12_stretchOf_8 : decode cX12_stretchOf 8 = .ok (.goto 8, 3) := by decide +kernel
theorem d_X12_stretchOf_11 : decode cX12_stretchOf 11 = .ok (.iload_n 0, 1) := by decide +kernel
theorem d_X12_stretchOf_12 : decode cX12_stretchOf 12 = .ok (.iload_n 2, 1) := by decide +kernel
theorem d_X12_stretchOf_13 : decode cX12_stretchOf 13 = .ok (.isub, 1) := by decide +kernel
theorem d_X12_stretchOf_14 : decode cX12_stretchOf 14 = .ok (.iconst 1, 1) := by decide +kernel
theorem d_X12_stretchOf_15 : decode cX12_stretchOf 15 = .ok (.isub, 1) := by decide +kernel
theorem d_X12_stretchOf_16 : decode cX12_stretchOf 16 = .ok (.ireturn, 1) := by decide +kernel
theorem d_X12_buysAt_0 : decode cX12_buysAt 0 = .ok (.aload_n 0, 1) := by decide +kernel
theorem d_X12_buysAt_1 : decode cX12_buysAt 1 = .ok (.getfield 68, 3) := by decide +kernel
theorem d_X12_buysAt_4 : decode cX12_buysAt 4 = .ok (.iload 4, 2) := by decide +kernel
theorem d_X12_buysAt_6 : decode cX12_buysAt 6 = .ok (.iload 5, 2) := by decide +kernel
theorem d_X12_buysAt_8 : decode cX12_buysAt 8 = .ok (.iload_n 2, 1) := by decide +kernel
theorem d_X12_buysAt_9 : decode cX12_buysAt 9 = .ok (.invokestatic 266, 3) := by decide +kernel
theorem d_X12_buysAt_12 : decode cX12_buysAt 12 = .ok (.iaload, 1) := by decide +kernel
theorem d_X12_buysAt_13 : decode cX12_buysAt 13 = .ok (.istore 6, 2) := by decide +kernel
theorem d_X12_buysAt_15 : decode cX12_buysAt 15 = .ok (.aload_n 0, 1) := by decide +kernel
theorem d_X12_buysAt_16 : decode cX12_buysAt 16 = .ok (.iload 4, 2) := by decide +kernel
theorem d_X12_buysAt_18 : decode cX12_buysAt 18 = .ok (.iload 5, 2) := by decide +kernel
theorem d_X12_buysAt_20 : decode cX12_buysAt 20 = .ok (.iload_n 2, 1) := by decide +kernel
theorem d_X12_buysAt_21 : decode cX12_buysAt 21 = .ok (.invokestatic 270, 3) := by decide +kernel
theorem d_X12_buysAt_24 : decode cX12_buysAt 24 = .ok (.iconst 0, 1) := by decide +kernel
theorem d_X12_buysAt_25 : decode cX12_buysAt 25 = .ok (.invokevirtual 225, 3) := by decide +kernel
theorem d_X12_buysAt_28 : decode cX12_buysAt 28 = .ok (.istore 7, 2) := by decide +kernel
theorem d_X12_buysAt_30 : decode cX12_buysAt 30 = .ok (.ldc_w 273, 3) := by decide +kernel
theorem d_X12_buysAt_33 : decode cX12_buysAt 33 = .ok (.istore 8, 2) := by decide +kernel
theorem d_X12_buysAt_35 : decode cX12_buysAt 35 = .ok (.iconst 0, 1) := by decide +kernel
theorem d_X12_buysAt_36 : decode cX12_buysAt 36 = .ok (.istore 9, 2) := by decide +kernel
theorem d_X12_buysAt_38 : decode cX12_buysAt 38 = .ok (.iconst 0, 1) := by decide +kernel
theorem d_X12_buysAt_39 : decode cX12_buysAt 39 = .ok (.istore 10, 2) := by decide +kernel
theorem d_X12_buysAt_41 : decode cX12_buysAt 41 = .ok (.iload_n 3, 1) := by decide +kernel
theorem d_X12_buysAt_42 : decode cX12_buysAt 42 = .ok (.iload 10, 2) := by decide +kernel
theorem d_X12_buysAt_44 : decode cX12_buysAt 44 = .ok (.iadd, 1) := by decide +kernel
theorem d_X12_buysAt_45 : decode cX12_buysAt 45 = .ok (.aload_n 0, 1) := by decide +kernel
theorem d_X12_buysAt_46 : decode cX12_buysAt 46 = .ok (.getfield 44, 3) := by decide +kernel
theorem d_X12_buysAt_49 : decode cX12_buysAt 49 = .ok (.iload_n 1, 1) := by decide +kernel
theorem d_X12_buysAt_50 : decode cX12_buysAt 50 = .ok (.iaload, 1) := by decide +kernel
theorem d_X12_buysAt_51 : decode cX12_buysAt 51 = .ok (.if_icmp .gt 90, 3) := by decide +kernel
theorem d_X12_buysAt_54 : decode cX12_buysAt 54 = .ok (.iload 10, 2) := by decide +kernel
theorem d_X12_buysAt_56 : decode cX12_buysAt 56 = .ok (.ifCond .eq 8, 3) := by decide +kernel
theorem d_X12_buysAt_59 : decode cX12_buysAt 59 = .ok (.iload 6, 2) := by decide +kernel
theorem d_X12_buysAt_61 : decode cX12_buysAt 61 = .ok (.ifCond .le 80, 3) := by decide +kernel
theorem d_X12_buysAt_64 : decode cX12_buysAt 64 = .ok (.iload_n 3, 1) := by decide +kernel
theorem d_X12_buysAt_65 : decode cX12_buysAt 65 = .ok (.iload 10, 2) := by decide +kernel
theorem d_X12_buysAt_67 : decode cX12_buysAt 67 = .ok (.iadd, 1) := by decide +kernel
theorem d_X12_buysAt_68 : decode cX12_buysAt 68 = .ok (.iload 7, 2) := by decide +kernel
theorem d_X12_buysAt_70 : decode cX12_buysAt 70 = .ok (.if_icmp .ge 9, 3) := by decide +kernel
theorem d_X12_buysAt_73 : decode cX12_buysAt 73 = .ok (.ldc_w 273, 3) := by decide +kernel
theorem d_X12_buysAt_76 : decode cX12_buysAt 76 = .ok (.goto 22, 3) := by decide +kernel
theorem d_X12_buysAt_79 : decode cX12_buysAt 79 = .ok (.aload_n 0, 1) := by decide +kernel
theorem d_X12_buysAt_80 : decode cX12_buysAt 80 = .ok (.getfield 107, 3) := by decide +kernel
theorem d_X12_buysAt_83 : decode cX12_buysAt 83 = .ok (.bipush 100, 2) := by decide +kernel
theorem d_X12_buysAt_85 : decode cX12_buysAt 85 = .ok (.iload_n 2, 1) := by decide +kernel
theorem d_X12_buysAt_86 : decode cX12_buysAt 86 = .ok (.iconst 1, 1) := by decide +kernel
theorem d_X12_buysAt_87 : decode cX12_buysAt 87 = .ok (.iadd, 1) := by decide +kernel
theorem d_X12_buysAt_88 : decode cX12_buysAt 88 = .ok (.imul, 1) := by decide +kernel
theorem d_X12_buysAt_89 : decode cX12_buysAt 89 = .ok (.iload_n 3, 1) := by decide +kernel
theorem d_X12_buysAt_90 : decode cX12_buysAt 90 = .ok (.iadd, 1) := by decide +kernel
theorem d_X12_buysAt_91 : decode cX12_buysAt 91 = .ok (.iload 10, 2) := by decide +kernel
theorem d_X12_buysAt_93 : decode cX12_buysAt 93 = .ok (.iadd, 1) := by decide +kernel
theorem d_X12_buysAt_94 : decode cX12_buysAt 94 = .ok (.iload 7, 2) := by decide +kernel
theorem d_X12_buysAt_96 : decode cX12_buysAt 96 = .ok (.isub, 1) := by decide +kernel
theorem d_X12_buysAt_97 : decode cX12_buysAt 97 = .ok (.iaload, 1) := by decide +kernel
theorem d_X12_buysAt_98 : decode cX12_buysAt 98 = .ok (.istore 11, 2) := by decide +kernel
theorem d_X12_buysAt_100 : decode cX12_buysAt 100 = .ok (.iload 11, 2) := by decide +kernel
theorem d_X12_buysAt_102 : decode cX12_buysAt 102 = .ok (.ldc_w 273, 3) := by decide +kernel
theorem d_X12_buysAt_105 : decode cX12_buysAt 105 = .ok (.if_icmp .ge 30, 3) := by decide +kernel
theorem d_X12_buysAt_108 : decode cX12_buysAt 108 = .ok (.iload 11, 2) := by decide +kernel
theorem d_X12_buysAt_110 : decode cX12_buysAt 110 = .ok (.iload 10, 2) := by decide +kernel
theorem d_X12_buysAt_112 : decode cX12_buysAt 112 = .ok (.iload 6, 2) := by decide +kernel
theorem d_X12_buysAt_114 : decode cX12_buysAt 114 = .ok (.imul, 1) := by decide +kernel
theorem d_X12_buysAt_115 : decode cX12_buysAt 115 = .ok (.iadd, 1) := by decide +kernel
theorem d_X12_buysAt_116 : decode cX12_buysAt 116 = .ok (.iload 8, 2) := by decide +kernel
theorem d_X12_buysAt_118 : decode cX12_buysAt 118 = .ok (.if_icmp .ge 17, 3) := by decide +kernel
theorem d_X12_buysAt_121 : decode cX12_buysAt 121 = .ok (.iload 11, 2) := by decide +kernel
theorem d_X12_buysAt_123 : decode cX12_buysAt 123 = .ok (.iload 10, 2) := by decide +kernel
theorem d_X12_buysAt_125 : decode cX12_buysAt 125 = .ok (.iload 6, 2) := by decide +kernel
theorem d_X12_buysAt_127 : decode cX12_buysAt 127 = .ok (.imul, 1) := by decide +kernel
theorem d_X12_buysAt_128 : decode cX12_buysAt 128 = .ok (.iadd, 1) := by decide +kernel
theorem d_X12_buysAt_129 : decode cX12_buysAt 129 = .ok (.istore 8, 2) := by decide +kernel
theorem d_X12_buysAt_131 : decode cX12_buysAt 131 = .ok (.iload 10, 2) := by decide +kernel
theorem d_X12_buysAt_133 : decode cX12_buysAt 133 = .ok (.istore 9, 2) := by decide +kernel
theorem d_X12_buysAt_135 : decode cX12_buysAt 135 = .ok (.iinc 10 1, 3) := by decide +kernel
theorem d_X12_buysAt_138 : decode cX12_buysAt 138 = .ok (.goto (-97), 3) := by decide +kernel
theorem d_X12_buysAt_141 : decode cX12_buysAt 141 = .ok (.aload_n 0, 1) := by decide +kernel
theorem d_X12_buysAt_142 : decode cX12_buysAt 142 = .ok (.getfield 107, 3) := by decide +kernel
theorem d_X12_buysAt_145 : decode cX12_buysAt 145 = .ok (.bipush 100, 2) := by decide +kernel
theorem d_X12_buysAt_147 : decode cX12_buysAt 147 = .ok (.iload_n 2, 1) := by decide +kernel
theorem d_X12_buysAt_148 : decode cX12_buysAt 148 = .ok (.imul, 1) := by decide +kernel
theorem d_X12_buysAt_149 : decode cX12_buysAt 149 = .ok (.iload_n 3, 1) := by decide +kernel
theorem d_X12_buysAt_150 : decode cX12_buysAt 150 = .ok (.iadd, 1) := by decide +kernel
theorem d_X12_buysAt_151 : decode cX12_buysAt 151 = .ok (.iload 8, 2) := by decide +kernel
theorem d_X12_buysAt_153 : decode cX12_buysAt 153 = .ok (.iastore, 1) := by decide +kernel
theorem d_X12_buysAt_154 : decode cX12_buysAt 154 = .ok (.aload_n 0, 1) := by decide +kernel
theorem d_X12_buysAt_155 : decode cX12_buysAt 155 = .ok (.getfield 110, 3) := by decide +kernel
theorem d_X12_buysAt_158 : decode cX12_buysAt 158 = .ok (.bipush 100, 2) := by decide +kernel
theorem d_X12_buysAt_160 : decode cX12_buysAt 160 = .ok (.iload_n 2, 1) := by decide +kernel
theorem d_X12_buysAt_161 : decode cX12_buysAt 161 = .ok (.imul, 1) := by decide +kernel
theorem d_X12_buysAt_162 : decode cX12_buysAt 162 = .ok (.iload_n 3, 1) := by decide +kernel
theorem d_X12_buysAt_163 : decode cX12_buysAt 163 = .ok (.iadd, 1) := by decide +kernel
theorem d_X12_buysAt_164 : decode cX12_buysAt 164 = .ok (.iload 9, 2) := by decide +kernel
theorem d_X12_buysAt_166 : decode cX12_buysAt 166 = .ok (.iastore, 1) := by decide +kernel
theorem d_X12_buysAt_167 : decode cX12_buysAt 167 = .ok (.return_, 1) := by decide +kernel
theorem d_X12_findWood_0 : decode cX12_findWood 0 = .ok (.aload_n 0, 1) := by decide +kernel
theorem d_X12_findWood_1 : decode cX12_findWood 1 = .ok (.iload_n 2, 1) := by decide +kernel
theorem d_X12_findWood_2 : decode cX12_findWood 2 = .ok (.iload_n 3, 1) := by decide +kernel
theorem d_X12_findWood_3 : decode cX12_findWood 3 = .ok (.if_icmp .ge 9, 3) := by decide +kernel
theorem d_X12_findWood_6 : decode cX12_findWood 6 = .ok (.iload_n 3, 1) := by decide +kernel
theorem d_X12_findWood_7 : decode cX12_findWood 7 = .ok (.iload_n 2, 1) := by decide +kernel
theorem d_X12_findWood_8 : decode cX12_findWood 8 = .ok (.isub, 1) := by decide +kernel
theorem d_X12_findWood_9 : decode cX12_findWood 9 = .ok (.goto 6, 3) := by decide +kernel
theorem d_X12_findWood_12 : decode cX12_findWood 12 = .ok (.iload_n 2, 1) := by decide +kernel
theorem d_X12_findWood_13 : decode cX12_findWood 13 = .ok (.iload_n 3, 1) := by decide +kernel
theorem d_X12_findWood_14 : decode cX12_findWood 14 = .ok (.isub, 1) := by decide +kernel
theorem d_X12_findWood_15 : decode cX12_findWood 15 = .ok (.putfield 274, 3) := by decide +kernel
theorem d_X12_findWood_18 : decode cX12_findWood 18 = .ok (.iconst 0, 1) := by decide +kernel
theorem d_X12_findWood_19 : decode cX12_findWood 19 = .ok (.istore 4, 2) := by decide +kernel
theorem d_X12_findWood_21 : decode cX12_findWood 21 = .ok (.iload 4, 2) := by decide +kernel
theorem d_X12_findWood_23 : decode cX12_findWood 23 = .ok (.bipush 100, 2) := by decide +kernel
theorem d_X12_findWood_25 : decode cX12_findWood 25 = .ok (.if_icmp .ge 25, 3) := by decide +kernel
theorem d_X12_findWood_28 : decode cX12_findWood 28 = .ok (.aload_n 0, 1) := by decide +kernel
theorem d_X12_findWood_29 : decode cX12_findWood 29 = .ok (.getfield 107, 3) := by decide +kernel
theorem d_X12_findWood_32 : decode cX12_findWood 32 = .ok (.bipush 100, 2) := by decide +kernel
theorem d_X12_findWood_34 : decode cX12_findWood 34 = .ok (.aload_n 0, 1) := by decide +kernel
theorem d_X12_findWood_35 : decode cX12_findWood 35 = .ok (.getfield 274, 3) := by decide +kernel
theorem d_X12_findWood_38 : decode cX12_findWood 38 = .ok (.imul, 1) := by decide +kernel
theorem d_X12_findWood_39 : decode cX12_findWood 39 = .ok (.iload 4, 2) := by decide +kernel
theorem d_X12_findWood_41 : decode cX12_findWood 41 = .ok (.iadd, 1) := by decide +kernel
theorem d_X12_findWood_42 : decode cX12_findWood 42 = .ok (.iconst 0, 1) := by decide +kernel
theorem d_X12_findWood_43 : decode cX12_findWood 43 = .ok (.iastore, 1) := by decide +kernel
theorem d_X12_findWood_44 : decode cX12_findWood 44 = .ok (.iinc 4 1, 3) := by decide +kernel
theorem d_X12_findWood_47 : decode cX12_findWood 47 = .ok (.goto (-26), 3) := by decide +kernel
theorem d_X12_findWood_50 : decode cX12_findWood 50 = .ok (.aload_n 0, 1) := by decide +kernel
theorem d_X12_findWood_51 : decode cX12_findWood 51 = .ok (.getfield 274, 3) := by decide +kernel
theorem d_X12_findWood_54 : decode cX12_findWood 54 = .ok (.iconst 1, 1) := by decide +kernel
theorem d_X12_findWood_55 : decode cX12_findWood 55 = .ok (.isub, 1) := by decide +kernel
theorem d_X12_findWood_56 : decode cX12_findWood 56 = .ok (.istore 4, 2) := by decide +kernel
theorem d_X12_findWood_58 : decode cX12_findWood 58 = .ok (.iload 4, 2) := by decide +kernel
theorem d_X12_findWood_60 : decode cX12_findWood 60 = .ok (.ifCond .lt 40, 3) := by decide +kernel
theorem d_X12_findWood_63 : decode cX12_findWood 63 = .ok (.iconst 0, 1) := by decide +kernel
theorem d_X12_findWood_64 : decode cX12_findWood 64 = .ok (.istore 5, 2) := by decide +kernel
theorem d_X12_findWood_66 : decode cX12_findWood 66 = .ok (.iload 5, 2) := by decide +kernel
theorem d_X12_findWood_68 : decode cX12_findWood 68 = .ok (.aload_n 0, 1) := by decide +kernel
theorem d_X12_findWood_69 : decode cX12_findWood 69 = .ok (.getfield 44, 3) := by decide +kernel
theorem d_X12_findWood_72 : decode cX12_findWood 72 = .ok (.iload_n 1, 1) := by decide +kernel
theorem d_X12_findWood_73 : decode cX12_findWood 73 = .ok (.iaload, 1) := by decide +kernel
theorem d_X12_findWood_74 : decode cX12_findWood 74 = .ok (.if_icmp .gt 20, 3) := by decide +kernel
theorem d_X12_findWood_77 : decode cX12_findWood 77 = .ok (.aload_n 0, 1) := by decide +kernel
theorem d_X12_findWood_78 : decode cX12_findWood 78 = .ok (.iload_n 1, 1) := by decide +kernel
theorem d_X12_findWood_79 : decode cX12_findWood 79 = .ok (.iload 4, 2) := by decide +kernel
theorem d_X12_findWood_81 : decode cX12_findWood 81 = .ok (.iload 5, 2) := by decide +kernel
theorem d_X12_findWood_83 : decode cX12_findWood 83 = .ok (.iload_n 2, 1) := by decide +kernel
theorem d_X12_findWood_84 : decode cX12_findWood 84 = .ok (.iload_n 3, 1) := by decide +kernel
theorem d_X12_findWood_85 : decode cX12_findWood 85 = .ok (.invokevirtual 277, 3) := by decide +kernel
theorem d_X12_findWood_88 : decode cX12_findWood 88 = .ok (.iinc 5 1, 3) := by decide +kernel
theorem d_X12_findWood_91 : decode cX12_findWood 91 = .ok (.goto (-25), 3) := by decide +kernel
theorem d_X12_findWood_94 : decode cX12_findWood 94 = .ok (.iinc 4 (-1), 3) := by decide +kernel
theorem d_X12_findWood_97 : decode cX12_findWood 97 = .ok (.goto (-39), 3) := by decide +kernel
theorem d_X12_findWood_100 : decode cX12_findWood 100 = .ok (.iconst 0, 1) := by decide +kernel
theorem d_X12_findWood_101 : decode cX12_findWood 101 = .ok (.istore 4, 2) := by decide +kernel
theorem d_X12_findWood_103 : decode cX12_findWood 103 = .ok (.iconst 0, 1) := by decide +kernel
theorem d_X12_findWood_104 : decode cX12_findWood 104 = .ok (.istore 5, 2) := by decide +kernel
theorem d_X12_findWood_106 : decode cX12_findWood 106 = .ok (.iload 5, 2) := by decide +kernel
theorem d_X12_findWood_108 : decode cX12_findWood 108 = .ok (.aload_n 0, 1) := by decide +kernel
theorem d_X12_findWood_109 : decode cX12_findWood 109 = .ok (.getfield 274, 3) := by decide +kernel
theorem d_X12_findWood_112 : decode cX12_findWood 112 = .ok (.if_icmp .ge 66, 3) := by decide +kernel
theorem d_X12_findWood_115 : decode cX12_findWood 115 = .ok (.aload_n 0, 1) := by decide +kernel
theorem d_X12_findWood_116 : decode cX12_findWood 116 = .ok (.getfield 107, 3) := by decide +kernel
theorem d_X12_findWood_119 : decode cX12_findWood 119 = .ok (.iconst 0, 1) := by decide +kernel
theorem d_X12_findWood_120 : decode cX12_findWood 120 = .ok (.iaload, 1) := by decide +kernel
theorem d_X12_findWood_121 : decode cX12_findWood 121 = .ok (.ldc_w 273, 3) := by decide +kernel
theorem d_X12_findWood_124 : decode cX12_findWood 124 = .ok (.if_icmp .ge 54, 3) := by decide +kernel
theorem d_X12_findWood_127 : decode cX12_findWood 127 = .ok (.aload_n 0, 1) := by decide +kernel
theorem d_X12_findWood_128 : decode cX12_findWood 128 = .ok (.getfield 113, 3) := by decide +kernel
theorem d_X12_findWood_131 : decode cX12_findWood 131 = .ok (.iload 5, 2) := by decide +kernel
theorem d_X12_findWood_133 : decode cX12_findWood 133 = .ok (.aload_n 0, 1) := by decide +kernel
theorem d_X12_findWood_134 : decode cX12_findWood 134 = .ok (.getfield 110, 3) := by decide +kernel
theorem d_X12_findWood_137 : decode cX12_findWood 137 = .ok (.bipush 100, 2) := by decide +kernel
theorem d_X12_findWood_139 : decode cX12_findWood 139 = .ok (.iload 5, 2) := by decide +kernel
theorem d_X12_findWood_141 : decode cX12_findWood 141 = .ok (.imul, 1) := by decide +kernel
theorem d_X12_findWood_142 : decode cX12_findWood 142 = .ok (.iload 4, 2) := by decide +kernel
theorem d_X12_findWood_144 : decode cX12_findWood 144 = .ok (.iadd, 1) := by decide +kernel
theorem d_X12_findWood_145 : decode cX12_findWood 145 = .ok (.iaload, 1) := by decide +kernel
theorem d_X12_findWood_146 : decode cX12_findWood 146 = .ok (.iastore, 1) := by decide +kernel
theorem d_X12_findWood_147 : decode cX12_findWood 147 = .ok (.iload 4, 2) := by decide +kernel
theorem d_X12_findWood_149 : decode cX12_findWood 149 = .ok (.aload_n 0, 1) := by decide +kernel
theorem d_X12_findWood_150 : decode cX12_findWood 150 = .ok (.getfield 113, 3) := by decide +kernel
theorem d_X12_findWood_153 : decode cX12_findWood 153 = .ok (.iload 5, 2) := by decide +kernel
theorem d_X12_findWood_155 : decode cX12_findWood 155 = .ok (.iaload, 1) := by decide +kernel
theorem d_X12_findWood_156 : decode cX12_findWood 156 = .ok (.aload_n 0, 1) := by decide +kernel
theorem d_X12_findWood_157 : decode cX12_findWood 157 = .ok (.iload_n 2, 1) := by decide +kernel
theorem d_X12_findWood_158 : decode cX12_findWood 158 = .ok (.iload_n 3, 1) := by decide +kernel
theorem d_X12_findWood_159 : decode cX12_findWood 159 = .ok (.iload 5, 2) := by decide +kernel
theorem d_X12_findWood_161 : decode cX12_findWood 161 = .ok (.invokestatic 270, 3) := by decide +kernel
theorem d_X12_findWood_164 : decode cX12_findWood 164 = .ok (.iconst 0, 1) := by decide +kernel
theorem d_X12_findWood_165 : decode cX12_findWood 165 = .ok (.invokevirtual 225, 3) := by decide +kernel
theorem d_X12_findWood_168 : decode cX12_findWood 168 = .ok (.isub, 1) := by decide +kernel
theorem d_X12_findWood_169 : decode cX12_findWood 169 = .ok (.iadd, 1) := by decide +kernel
theorem d_X12_findWood_170 : decode cX12_findWood 170 = .ok (.istore 4, 2) := by decide +kernel
theorem d_X12_findWood_172 : decode cX12_findWood 172 = .ok (.iinc 5 1, 3) := by decide +kernel
theorem d_X12_findWood_175 : decode cX12_findWood 175 = .ok (.goto (-69), 3) := by decide +kernel
theorem d_X12_findWood_178 : decode cX12_findWood 178 = .ok (.aload_n 0, 1) := by decide +kernel
theorem d_X12_findWood_179 : decode cX12_findWood 179 = .ok (.getfield 107, 3) := by decide +kernel
theorem d_X12_findWood_182 : decode cX12_findWood 182 = .ok (.iconst 0, 1) := by decide +kernel
theorem d_X12_findWood_183 : decode cX12_findWood 183 = .ok (.iaload, 1) := by decide +kernel
theorem d_X12_findWood_184 : decode cX12_findWood 184 = .ok (.ireturn, 1) := by decide +kernel
theorem d_X12_wooding_0 : decode cX12_wooding 0 = .ok (.aload_n 0, 1) := by decide +kernel
theorem d_X12_wooding_1 : decode cX12_wooding 1 = .ok (.iload_n 1, 1) := by decide +kernel
theorem d_X12_wooding_2 : decode cX12_wooding 2 = .ok (.invokevirtual 238, 3) := by decide +kernel
theorem d_X12_wooding_5 : decode cX12_wooding 5 = .ok (.ifCond .eq 19, 3) := by decide +kernel
theorem d_X12_wooding_8 : decode cX12_wooding 8 = .ok (.aload_n 0, 1) := by decide +kernel
theorem d_X12_wooding_9 : decode cX12_wooding 9 = .ok (.iload_n 2, 1) := by decide +kernel
theorem d_X12_wooding_10 : decode cX12_wooding 10 = .ok (.invokevirtual 229, 3) := by decide +kernel
theorem d_X12_wooding_13 : decode cX12_wooding 13 = .ok (.ifCond .eq 11, 3) := by decide +kernel
theorem d_X12_wooding_16 : decode cX12_wooding 16 = .ok (.aload_n 0, 1) := by decide +kernel
theorem d_X12_wooding_17 : decode cX12_wooding 17 = .ok (.iload_n 3, 1) := by decide +kernel
theorem d_X12_wooding_18 : decode cX12_wooding 18 = .ok (.invokevirtual 229, 3) := by decide +kernel
theorem d_X12_wooding_21 : decode cX12_wooding 21 = .ok (.ifCond .ne 5, 3) := by decide +kernel
theorem d_X12_wooding_24 : decode cX12_wooding 24 = .ok (.iconst (-1), 1) := by decide +kernel
theorem d_X12_wooding_25 : decode cX12_wooding 25 = .ok (.ireturn, 1) := by decide +kernel
theorem d_X12_wooding_26 : decode cX12_wooding 26 = .ok (.aload_n 0, 1) := by decide +kernel
theorem d_X12_wooding_27 : decode cX12_wooding 27 = .ok (.iload_n 1, 1) := by decide +kernel
theorem d_X12_wooding_28 : decode cX12_wooding 28 = .ok (.iload_n 2, 1) := by decide +kernel
theorem d_X12_wooding_29 : decode cX12_wooding 29 = .ok (.iload_n 3, 1) := by decide +kernel
theorem d_X12_wooding_30 : decode cX12_wooding 30 = .ok (.invokevirtual 281, 3) := by decide +kernel
theorem d_X12_wooding_33 : decode cX12_wooding 33 = .ok (.istore 4, 2) := by decide +kernel
theorem d_X12_wooding_35 : decode cX12_wooding 35 = .ok (.iload 4, 2) := by decide +kernel
theorem d_X12_wooding_37 : decode cX12_wooding 37 = .ok (.ldc_w 273, 3) := by decide +kernel
theorem d_X12_wooding_40 : decode cX12_wooding 40 = .ok (.if_icmp .ne 7, 3) := by decide +kernel
theorem d_X12_wooding_43 : decode cX12_wooding 43 = .ok (.iconst (-1), 1) := by decide +kernel
theorem d_X12_wooding_44 : decode cX12_wooding 44 = .ok (.goto 5, 3) := by decide +kernel
theorem d_X12_wooding_47 : decode cX12_wooding 47 = .ok (.iload 4, 2) := by decide +kernel
theorem d_X12_wooding_49 : decode cX12_wooding 49 = .ok (.ireturn, 1) := by decide +kernel
theorem d_X12_bought_0 : decode cX12_bought 0 = .ok (.aload_n 0, 1) := by decide +kernel
theorem d_X12_bought_1 : decode cX12_bought 1 = .ok (.iload_n 1, 1) := by decide +kernel
theorem d_X12_bought_2 : decode cX12_bought 2 = .ok (.iload_n 2, 1) := by decide +kernel
theorem d_X12_bought_3 : decode cX12_bought 3 = .ok (.iload_n 3, 1) := by decide +kernel
theorem d_X12_bought_4 : decode cX12_bought 4 = .ok (.invokevirtual 284, 3) := by decide +kernel
theorem d_X12_bought_7 : decode cX12_bought 7 = .ok (.iconst (-1), 1) := by decide +kernel
theorem d_X12_bought_8 : decode cX12_bought 8 = .ok (.if_icmp .eq 28, 3) := by decide +kernel
theorem d_X12_bought_11 : decode cX12_bought 11 = .ok (.iload 4, 2) := by decide +kernel
theorem d_X12_bought_13 : decode cX12_bought 13 = .ok (.iconst 0, 1) := by decide +kernel
theorem d_X12_bought_14 : decode cX12_bought 14 = .ok (.aload_n 0, 1) := by decide +kernel
theorem d_X12_bought_15 : decode cX12_bought 15 = .ok (.getfield 274, 3) := by decide +kernel
theorem d_X12_bought_18 : decode cX12_bought 18 = .ok (.iconst 1, 1) := by decide +kernel
theorem d_X12_bought_19 : decode cX12_bought 19 = .ok (.isub, 1) := by decide +kernel
theorem d_X12_bought_20 : decode cX12_bought 20 = .ok (.invokestatic 174, 3) := by decide +kernel
theorem d_X12_bought_23 : decode cX12_bought 23 = .ok (.ifCond .eq 13, 3) := by decide +kernel
theorem d_X12_bought_26 : decode cX12_bought 26 = .ok (.aload_n 0, 1) := by decide +kernel
theorem d_X12_bought_27 : decode cX12_bought 27 = .ok (.getfield 113, 3) := by decide +kernel
theorem d_X12_bought_30 : decode cX12_bought 30 = .ok (.iload 4, 2) := by decide +kernel
theorem d_X12_bought_32 : decode cX12_bought 32 = .ok (.iaload, 1) := by decide +kernel
theorem d_X12_bought_33 : decode cX12_bought 33 = .ok (.goto 4, 3) := by decide +kernel
theorem d_X12_bought_36 : decode cX12_bought 36 = .ok (.iconst (-1), 1) := by decide +kernel
theorem d_X12_bought_37 : decode cX12_bought 37 = .ok (.ireturn, 1) := by decide +kernel
theorem d_X12_trip_0 : decode cX12_trip 0 = .ok (.aload_n 0, 1) := by decide +kernel
theorem d_X12_trip_1 : decode cX12_trip 1 = .ok (.iload_n 1, 1) := by decide +kernel
theorem d_X12_trip_2 : decode cX12_trip 2 = .ok (.invokevirtual 229, 3) := by decide +kernel
theorem d_X12_trip_5 : decode cX12_trip 5 = .ok (.ifCond .eq 26, 3) := by decide +kernel
theorem d_X12_trip_8 : decode cX12_trip 8 = .ok (.aload_n 0, 1) := by decide +kernel
theorem d_X12_trip_9 : decode cX12_trip 9 = .ok (.iload_n 2, 1) := by decide +kernel
theorem d_X12_trip_10 : decode cX12_trip 10 = .ok (.invokevirtual 229, 3) := by decide +kernel
theorem d_X12_trip_13 : decode cX12_trip 13 = .ok (.ifCond .eq 18, 3) := by decide +kernel
theorem d_X12_trip_16 : decode cX12_trip 16 = .ok (.iload_n 1, 1) := by decide +kernel
theorem d_X12_trip_17 : decode cX12_trip 17 = .ok (.iload_n 2, 1) := by decide +kernel
theorem d_X12_trip_18 : decode cX12_trip 18 = .ok (.if_icmp .eq 13, 3) := by decide +kernel
theorem d_X12_trip_21 : decode cX12_trip 21 = .ok (.iload_n 3, 1) := by decide +kernel
theorem d_X12_trip_22 : decode cX12_trip 22 = .ok (.iconst 0, 1) := by decide +kernel
theorem d_X12_trip_23 : decode cX12_trip 23 = .ok (.bipush 9, 2) := by decide +kernel
theorem d_X12_trip_25 : decode cX12_trip 25 = .ok (.invokestatic 174, 3) := by decide +kernel
theorem d_X12_trip_28 : decode cX12_trip 28 = .ok (.ifCond .ne 9, 3) := by decide +kernel
theorem d_X12_trip_31 : decode cX12_trip 31 = .ok (.aload_n 0, 1) := by decide +kernel
theorem d_X12_trip_32 : decode cX12_trip 32 = .ok (.iconst 1, 1) := by decide +kernel
theorem d_X12_trip_33 : decode cX12_trip 33 = .ok (.invokevirtual 187, 3) := by decide +kernel
theorem d_X12_trip_36 : decode cX12_trip 36 = .ok (.ireturn, 1) := by decide +kernel
theorem d_X12_trip_37 : decode cX12_trip 37 = .ok (.aload_n 0, 1) := by decide +kernel
theorem d_X12_trip_38 : decode cX12_trip 38 = .ok (.getfield 287, 3) := by decide +kernel
theorem d_X12_trip_41 : decode cX12_trip 41 = .ok (.bipush 6, 2) := by decide +kernel
theorem d_X12_trip_43 : decode cX12_trip 43 = .ok (.if_icmp .ne 9, 3) := by decide +kernel
theorem d_X12_trip_46 : decode cX12_trip 46 = .ok (.aload_n 0, 1) := by decide +kernel
theorem d_X12_trip_47 : decode cX12_trip 47 = .ok (.iconst 2, 1) := by decide +kernel
theorem d_X12_trip_48 : decode cX12_trip 48 = .ok (.invokevirtual 187, 3) := by decide +kernel
theorem d_X12_trip_51 : decode cX12_trip 51 = .ok (.ireturn, 1) := by decide +kernel
theorem d_X12_trip_52 : decode cX12_trip 52 = .ok (.aload_n 0, 1) := by decide +kernel
theorem d_X12_trip_53 : decode cX12_trip 53 = .ok (.getfield 86, 3) := by decide +kernel
theorem d_X12_trip_56 : decode cX12_trip 56 = .ok (.aload_n 0, 1) := by decide +kernel
theorem d_X12_trip_57 : decode cX12_trip 57 = .ok (.getfield 287, 3) := by decide +kernel
theorem d_X12_trip_60 : decode cX12_trip 60 = .ok (.iload_n 1, 1) := by decide +kernel
theorem d_X12_trip_61 : decode cX12_trip 61 = .ok (.iastore, 1) := by decide +kernel
theorem d_X12_trip_62 : decode cX12_trip 62 = .ok (.aload_n 0, 1) := by decide +kernel
theorem d_X12_trip_63 : decode cX12_trip 63 = .ok (.getfield 89, 3) := by decide +kernel
theorem d_X12_trip_66 : decode cX12_trip 66 = .ok (.aload_n 0, 1) := by decide +kernel
theorem d_X12_trip_67 : decode cX12_trip 67 = .ok (.getfield 287, 3) := by decide +kernel
theorem d_X12_trip_70 : decode cX12_trip 70 = .ok (.iload_n 2, 1) := by decide +kernel
theorem d_X12_trip_71 : decode cX12_trip 71 = .ok (.iastore, 1) := by decide +kernel
theorem d_X12_trip_72 : decode cX12_trip 72 = .ok (.aload_n 0, 1) := by decide +kernel
theorem d_X12_trip_73 : decode cX12_trip 73 = .ok (.getfield 92, 3) := by decide +kernel
theorem d_X12_trip_76 : decode cX12_trip 76 = .ok (.aload_n 0, 1) := by decide +kernel
theorem d_X12_trip_77 : decode cX12_trip 77 = .ok (.getfield 287, 3) := by decide +kernel
theorem d_X12_trip_80 : decode cX12_trip 80 = .ok (.iload_n 3, 1) := by decide +kernel
theorem d_X12_trip_81 : decode cX12_trip 81 = .ok (.iastore, 1) := by decide +kernel
theorem d_X12_trip_82 : decode cX12_trip 82 = .ok (.aload_n 0, 1) := by decide +kernel
theorem d_X12_trip_83 : decode cX12_trip 83 = .ok (.dup, 1) := by decide +kernel
theorem d_X12_trip_84 : decode cX12_trip 84 = .ok (.getfield 287, 3) := by decide +kernel
theorem d_X12_trip_87 : decode cX12_trip 87 = .ok (.iconst 1, 1) := by decide +kernel
theorem d_X12_trip_88 : decode cX12_trip 88 = .ok (.iadd, 1) := by decide +kernel
theorem d_X12_trip_89 : decode cX12_trip 89 = .ok (.putfield 287, 3) := by decide +kernel
theorem d_X12_trip_92 : decode cX12_trip 92 = .ok (.aload_n 0, 1) := by decide +kernel
theorem d_X12_trip_93 : decode cX12_trip 93 = .ok (.aload_n 0, 1) := by decide +kernel
theorem d_X12_trip_94 : decode cX12_trip 94 = .ok (.getfield 287, 3) := by decide +kernel
theorem d_X12_trip_97 : decode cX12_trip 97 = .ok (.iconst 1, 1) := by decide +kernel
theorem d_X12_trip_98 : decode cX12_trip 98 = .ok (.isub, 1) := by decide +kernel
theorem d_X12_trip_99 : decode cX12_trip 99 = .ok (.invokevirtual 191, 3) := by decide +kernel
theorem d_X12_trip_102 : decode cX12_trip 102 = .ok (.ireturn, 1) := by decide +kernel
theorem d_X12_helps_0 : decode cX12_helps 0 = .ok (.iconst 0, 1) := by decide +kernel
theorem d_X12_helps_1 : decode cX12_helps 1 = .ok (.istore_n 2, 1) := by decide +kernel
theorem d_X12_helps_2 : decode cX12_helps 2 = .ok (.iload_n 2, 1) := by decide +kernel
theorem d_X12_helps_3 : decode cX12_helps 3 = .ok (.aload_n 0, 1) := by decide +kernel
theorem d_X12_helps_4 : decode cX12_helps 4 = .ok (.getfield 287, 3) := by decide +kernel
theorem d_X12_helps_7 : decode cX12_helps 7 = .ok (.if_icmp .ge 128, 3) := by decide +kernel
theorem d_X12_helps_10 : decode cX12_helps 10 = .ok (.iconst 0, 1) := by decide +kernel
theorem d_X12_helps_11 : decode cX12_helps 11 = .ok (.istore_n 3, 1) := by decide +kernel
theorem d_X12_helps_12 : decode cX12_helps 12 = .ok (.aload_n 0, 1) := by decide +kernel
theorem d_X12_helps_13 : decode cX12_helps 13 = .ok (.getfield 86, 3) := by decide +kernel
theorem d_X12_helps_16 : decode cX12_helps 16 = .ok (.iload_n 2, 1) := by decide +kernel
theorem d_X12_helps_17 : decode cX12_helps 17 = .ok (.iaload, 1) := by decide +kernel
theorem d_X12_helps_18 : decode cX12_helps 18 = .ok (.aload_n 0, 1) := by decide +kernel
theorem d_X12_helps_19 : decode cX12_helps 19 = .ok (.getfield 89, 3) := by decide +kernel
theorem d_X12_helps_22 : decode cX12_helps 22 = .ok (.iload_n 2, 1) := by decide +kernel
theorem d_X12_helps_23 : decode cX12_helps 23 = .ok (.iaload, 1) := by decide +kernel
theorem d_X12_helps_24 : decode cX12_helps 24 = .ok (.if_icmp .ge 12, 3) := by decide +kernel
theorem d_X12_helps_27 : decode cX12_helps 27 = .ok (.aload_n 0, 1) := by decide +kernel
theorem d_X12_helps_28 : decode cX12_helps 28 = .ok (.getfield 86, 3) := by decide +kernel
theorem d_X12_helps_31 : decode cX12_helps 31 = .ok (.iload_n 2, 1) := by decide +kernel
theorem d_X12_helps_32 : decode cX12_helps 32 = .ok (.iaload, 1) := by decide +kernel
theorem d_X12_helps_33 : decode cX12_helps 33 = .ok (.goto 9, 3) := by decide +kernel
theorem d_X12_helps_36 : decode cX12_helps 36 = .ok (.aload_n 0, 1) := by decide +kernel
theorem d_X12_helps_37 : decode cX12_helps 37 = .ok (.getfield 89, 3) := by decide +kernel
theorem d_X12_helps_40 : decode cX12_helps 40 = .ok (.iload_n 2, 1) := by decide +kernel
theorem d_X12_helps_41 : decode cX12_helps 41 = .ok (.iaload, 1) := by decide +kernel
theorem d_X12_helps_42 : decode cX12_helps 42 = .ok (.istore 4, 2) := by decide +kernel
theorem d_X12_helps_44 : decode cX12_helps 44 = .ok (.aload_n 0, 1) := by decide +kernel
theorem d_X12_helps_45 : decode cX12_helps 45 = .ok (.getfield 86, 3) := by decide +kernel
theorem d_X12_helps_48 : decode cX12_helps 48 = .ok (.iload_n 2, 1) := by decide +kernel
theorem d_X12_helps_49 : decode cX12_helps 49 = .ok (.iaload, 1) := by decide +kernel
theorem d_X12_helps_50 : decode cX12_helps 50 = .ok (.aload_n 0, 1) := by decide +kernel
theorem d_X12_helps_51 : decode cX12_helps 51 = .ok (.getfield 89, 3) := by decide +kernel
theorem d_X12_helps_54 : decode cX12_helps 54 = .ok (.iload_n 2, 1) := by decide +kernel
theorem d_X12_helps_55 : decode cX12_helps 55 = .ok (.iaload, 1) := by decide +kernel
theorem d_X12_helps_56 : decode cX12_helps 56 = .ok (.iadd, 1) := by decide +kernel
theorem d_X12_helps_57 : decode cX12_helps 57 = .ok (.iload 4, 2) := by decide +kernel
theorem d_X12_helps_59 : decode cX12_helps 59 = .ok (.isub, 1) := by decide +kernel
theorem d_X12_helps_60 : decode cX12_helps 60 = .ok (.istore 5, 2) := by decide +kernel
theorem d_X12_helps_62 : decode cX12_helps 62 = .ok (.iload 4, 2) := by decide +kernel
theorem d_X12_helps_64 : decode cX12_helps 64 = .ok (.istore 6, 2) := by decide +kernel
theorem d_X12_helps_66 : decode cX12_helps 66 = .ok (.iload 6, 2) := by decide +kernel
theorem d_X12_helps_68 : decode cX12_helps 68 = .ok (.iload 5, 2) := by decide +kernel
theorem d_X12_helps_70 : decode cX12_helps 70 = .ok (.if_icmp .ge 47, 3) := by decide +kernel
theorem d_X12_helps_73 : decode cX12_helps 73 = .ok (.iload_n 3, 1) := by decide +kernel
theorem d_X12_helps_74 : decode cX12_helps 74 = .ok (.aload_n 0, 1) := by decide +kernel
theorem d_X12_helps_75 : decode cX12_helps 75 = .ok (.getfield 7, 3) := by decide +kernel
theorem d_X12_helps_78 : decode cX12_helps 78 = .ok (.iload 6, 2) := by decide +kernel
theorem d_X12_helps_80 : decode cX12_helps 80 = .ok (.iaload, 1) := by decide +kernel
theorem d_X12_helps_81 : decode cX12_helps 81 = .ok (.iconst 3, 1) := by decide +kernel
theorem d_X12_helps_82 : decode cX12_helps 82 = .ok (.if_icmp .ne 26, 3) := by decide +kernel
theorem d_X12_helps_85 : decode cX12_helps 85 = .ok (.aload_n 0, 1) := by decide +kernel
theorem d_X12_helps_86 : decode cX12_helps 86 = .ok (.getfield 19, 3) := by decide +kernel
theorem d_X12_helps_89 : decode cX12_helps 89 = .ok (.iload 6, 2) := by decide +kernel
theorem d_X12_helps_91 : decode cX12_helps 91 = .ok (.baload, 1) := by decide +kernel
theorem d_X12_helps_92 : decode cX12_helps 92 = .ok (.ifCond .ne 16, 3) := by decide +kernel
theorem d_X12_helps_95 : decode cX12_helps 95 = .ok (.iload_n 1, 1) := by decide +kernel
theorem d_X12_helps_96 : decode cX12_helps 96 = .ok (.iload 6, 2) := by decide +kernel
theorem d_X12_helps_98 : decode cX12_helps 98 = .ok (.ishr, 1) := by decide +kernel
theorem d_X12_helps_99 : decode cX12_helps 99 = .ok (.iconst 1, 1) := by decide +kernel
theorem d_X12_helps_100 : decode cX12_helps 100 = .ok (.iand, 1) := by decide +kernel
theorem d_X12_helps_101 : decode cX12_helps 101 = .ok (.ifCond .ne 7, 3) := by decide +kernel
theorem d_X12_helps_104 : decode cX12_helps 104 = .ok (.iconst 1, 1) := by decide +kernel
theorem d_X12_helps_105 : decode cX12_helps 105 = .ok (.goto 4, 3) := by decide +kernel
theorem d_X12_helps_108 : decode cX12_helps 108 = .ok (.iconst 0, 1) := by decide +kernel
theorem d_X12_helps_109 : decode cX12_helps 109 = .ok (.iadd, 1) := by decide +kernel
theorem d_X12_helps_110 : decode cX12_helps 110 = .ok (.istore_n 3, 1) := by decide +kernel
theorem d_X12_helps_111 : decode cX12_helps 111 = .ok (.iinc 6 1, 3) := by decide +kernel
theorem d_X12_helps_114 : decode cX12_helps 114 = .ok (.goto (-48), 3) := by decide +kernel
theorem d_X12_helps_117 : decode cX12_helps 117 = .ok (.iload_n 3, 1) := by decide +kernel
theorem d_X12_helps_118 : decode cX12_helps 118 = .ok (.aload_n 0, 1) := by decide +kernel
theorem d_X12_helps_119 : decode cX12_helps 119 = .ok (.getfield 92, 3) := by decide +kernel
theorem d_X12_helps_122 : decode cX12_helps 122 = .ok (.iload_n 2, 1) := by decide +kernel
theorem d_X12_helps_123 : decode cX12_helps 123 = .ok (.iaload, 1) := by decide +kernel
theorem d_X12_helps_124 : decode cX12_helps 124 = .ok (.if_icmp .le 5, 3) := by decide +kernel
theorem d_X12_helps_127 : decode cX12_helps 127 = .ok (.iconst 0, 1) := by decide +kernel
theorem d_X12_helps_128 : decode cX12_helps 128 = .ok (.ireturn, 1) := by decide +kernel
theorem d_X12_helps_129 : decode cX12_helps 129 = .ok (.iinc 2 1, 3) := by decide +kernel
theorem d_X12_helps_132 : decode cX12_helps 132 = .ok (.goto (-130), 3) := by decide +kernel
theorem d_X12_helps_135 : decode cX12_helps 135 = .ok (.iconst 1, 1) := by decide +kernel
theorem d_X12_helps_136 : decode cX12_helps 136 = .ok (.ireturn, 1) := by decide +kernel
theorem d_X12_many_0 : decode cX12_many 0 = .ok (.iconst 0, 1) := by decide +kernel
theorem d_X12_many_1 : decode cX12_many 1 = .ok (.istore_n 1, 1) := by decide +kernel
theorem d_X12_many_2 : decode cX12_many 2 = .ok (.iconst 0, 1) := by decide +kernel
theorem d_X12_many_3 : decode cX12_many 3 = .ok (.istore_n 2, 1) := by decide +kernel
theorem d_X12_many_4 : decode cX12_many 4 = .ok (.iload_n 2, 1) := by decide +kernel
theorem d_X12_many_5 : decode cX12_many 5 = .ok (.bipush 12, 2) := by decide +kernel
theorem d_X12_many_7 : decode cX12_many 7 = .ok (.if_icmp .ge 17, 3) := by decide +kernel
theorem d_X12_many_10 : decode cX12_many 10 = .ok (.iload_n 1, 1) := by decide +kernel
theorem d_X12_many_11 : decode cX12_many 11 = .ok (.iload_n 0, 1) := by decide +kernel
theorem d_X12_many_12 : decode cX12_many 12 = .ok (.iload_n 2, 1) := by decide +kernel
theorem d_X12_many_13 : decode cX12_many 13 = .ok (.ishr, 1) := by decide +kernel
theorem d_X12_many_14 : decode cX12_many 14 = .ok (.iconst 1, 1) := by decide +kernel
theorem d_X12_many_15 : decode cX12_many 15 = .ok (.iand, 1) := by decide +kernel
theorem d_X12_many_16 : decode cX12_many 16 = .ok (.iadd, 1) := by decide +kernel
theorem d_X12_many_17 : decode cX12_many 17 = .ok (.istore_n 1, 1) := by decide +kernel
theorem d_X12_many_18 : decode cX12_many 18 = .ok (.iinc 2 1, 3) := by decide +kernel
theorem d_X12_many_21 : decode cX12_many 21 = .ok (.goto (-17), 3) := by decide +kernel
theorem d_X12_many_24 : decode cX12_many 24 = .ok (.iload_n 1, 1) := by decide +kernel
theorem d_X12_many_25 : decode cX12_many 25 = .ok (.ireturn, 1) := by decide +kernel
theorem d_X12_lights_0 : decode cX12_lights 0 = .ok (.iconst 0, 1) := by decide +kernel
theorem d_X12_lights_1 : decode cX12_lights 1 = .ok (.istore_n 1, 1) := by decide +kernel
theorem d_X12_lights_2 : decode cX12_lights 2 = .ok (.iconst 0, 1) := by decide +kernel
theorem d_X12_lights_3 : decode cX12_lights 3 = .ok (.istore_n 2, 1) := by decide +kernel
theorem d_X12_lights_4 : decode cX12_lights 4 = .ok (.iload_n 2, 1) := by decide +kernel
theorem d_X12_lights_5 : decode cX12_lights 5 = .ok (.aload_n 0, 1) := by decide +kernel
theorem d_X12_lights_6 : decode cX12_lights 6 = .ok (.getfield 171, 3) := by decide +kernel
theorem d_X12_lights_9 : decode cX12_lights 9 = .ok (.if_icmp .ge 38, 3) := by decide +kernel
theorem d_X12_lights_12 : decode cX12_lights 12 = .ok (.iload_n 1, 1) := by decide +kernel
theorem d_X12_lights_13 : decode cX12_lights 13 = .ok (.aload_n 0, 1) := by decide +kernel
theorem d_X12_lights_14 : decode cX12_lights 14 = .ok (.getfield 7, 3) := by decide +kernel
theorem d_X12_lights_17 : decode cX12_lights 17 = .ok (.iload_n 2, 1) := by decide +kernel
theorem d_X12_lights_18 : decode cX12_lights 18 = .ok (.iaload, 1) := by decide +kernel
theorem d_X12_lights_19 : decode cX12_lights 19 = .ok (.iconst 3, 1) := by decide +kernel
theorem d_X12_lights_20 : decode cX12_lights 20 = .ok (.if_icmp .ne 18, 3) := by decide +kernel
theorem d_X12_lights_23 : decode cX12_lights 23 = .ok (.aload_n 0, 1) := by decide +kernel
theorem d_X12_lights_24 : decode cX12_lights 24 = .ok (.getfield 19, 3) := by decide +kernel
theorem d_X12_lights_27 : decode cX12_lights 27 = .ok (.iload_n 2, 1) := by decide +kernel
theorem d_X12_lights_28 : decode cX12_lights 28 = .ok (.baload, 1) := by decide +kernel
theorem d_X12_lights_29 : decode cX12_lights 29 = .ok (.ifCond .ne 9, 3) := by decide +kernel
theorem d_X12_lights_32 : decode cX12_lights 32 = .ok (.iconst 1, 1) := by decide +kernel
theorem d_X12_lights_33 : decode cX12_lights 33 = .ok (.iload_n 2, 1) := by decide +kernel
theorem d_X12_lights_34 : decode cX12_lights 34 = .ok (.ishl, 1) := by decide +kernel
theorem d_X12_lights_35 : decode cX12_lights 35 = .ok (.goto 4, 3) := by decide +kernel
theorem d_X12_lights_38 : decode cX12_lights 38 = .ok (.iconst 0, 1) := by decide +kernel
theorem d_X12_lights_39 : decode cX12_lights 39 = .ok (.ior, 1) := by decide +kernel
theorem d_X12_lights_40 : decode cX12_lights 40 = .ok (.istore_n 1, 1) := by decide +kernel
theorem d_X12_lights_41 : decode cX12_lights 41 = .ok (.iinc 2 1, 3) := by decide +kernel
theorem d_X12_lights_44 : decode cX12_lights 44 = .ok (.goto (-40), 3) := by decide +kernel
theorem d_X12_lights_47 : decode cX12_lights 47 = .ok (.iconst (-1), 1) := by decide +kernel
theorem d_X12_lights_48 : decode cX12_lights 48 = .ok (.istore_n 2, 1) := by decide +kernel
theorem d_X12_lights_49 : decode cX12_lights 49 = .ok (.iconst 0, 1) := by decide +kernel
theorem d_X12_lights_50 : decode cX12_lights 50 = .ok (.istore_n 3, 1) := by decide +kernel
theorem d_X12_lights_51 : decode cX12_lights 51 = .ok (.iload_n 3, 1) := by decide +kernel
theorem d_X12_lights_52 : decode cX12_lights 52 = .ok (.iconst 1, 1) := by decide +kernel
theorem d_X12_lights_53 : decode cX12_lights 53 = .ok (.aload_n 0, 1) := by decide +kernel
theorem d_X12_lights_54 : decode cX12_lights 54 = .ok (.getfield 171, 3) := by decide +kernel
theorem d_X12_lights_57 : decode cX12_lights 57 = .ok (.ishl, 1) := by decide +kernel
theorem d_X12_lights_58 : decode cX12_lights 58 = .ok (.if_icmp .ge 43, 3) := by decide +kernel
theorem d_X12_lights_61 : decode cX12_lights 61 = .ok (.iload_n 3, 1) := by decide +kernel
theorem d_X12_lights_62 : decode cX12_lights 62 = .ok (.iload_n 1, 1) := by decide +kernel
theorem d_X12_lights_63 : decode cX12_lights 63 = .ok (.iconst (-1), 1) := by decide +kernel
theorem d_X12_lights_64 : decode cX12_lights 64 = .ok (.ixor, 1) := by decide +kernel
theorem d_X12_lights_65 : decode cX12_lights 65 = .ok (.iand, 1) := by decide +kernel
theorem d_X12_lights_66 : decode cX12_lights 66 = .ok (.ifCond .ne 29, 3) := by decide +kernel
theorem d_X12_lights_69 : decode cX12_lights 69 = .ok (.iload_n 2, 1) := by decide +kernel
theorem d_X12_lights_70 : decode cX12_lights 70 = .ok (.iconst (-1), 1) := by decide +kernel
theorem d_X12_lights_71 : decode cX12_lights 71 = .ok (.if_icmp .eq 14, 3) := by decide +kernel
theorem d_X12_lights_74 : decode cX12_lights 74 = .ok (.iload_n 3, 1) := by decide +kernel
theorem d_X12_lights_75 : decode cX12_lights 75 = .ok (.invokestatic 290, 3) := by decide +kernel
theorem d_X12_lights_78 : decode cX12_lights 78 = .ok (.iload_n 2, 1) := by decide +kernel
theorem d_X12_lights_79 : decode cX12_lights 79 = .ok (.invokestatic 290, 3) := by decide +kernel
theorem d_X12_lights_82 : decode cX12_lights 82 = .ok (.if_icmp .ge 13, 3) := by decide +kernel
theorem d_X12_lights_85 : decode cX12_lights 85 = .ok (.aload_n 0, 1) := by decide +kernel
theorem d_X12_lights_86 : decode cX12_lights 86 = .ok (.iload_n 3, 1) := by decide +kernel
theorem d_X12_lights_87 : decode cX12_lights 87 = .ok (.invokevirtual 293, 3) := by decide +kernel
theorem d_X12_lights_90 : decode cX12_lights 90 = .ok (.ifCond .eq 5, 3) := by decide +kernel
theorem d_X12_lights_93 : decode cX12_lights 93 = .ok (.iload_n 3, 1) := by decide +kernel
theorem d_X12_lights_94 : decode cX12_lights 94 = .ok (.istore_n 2, 1) := by decide +kernel
theorem d_X12_lights_95 : decode cX12_lights 95 = .ok (.iinc 3 1, 3) := by decide +kernel
theorem d_X12_lights_98 : decode cX12_lights 98 = .ok (.goto (-47), 3) := by decide +kernel
theorem d_X12_lights_101 : decode cX12_lights 101 = .ok (.iload_n 2, 1) := by decide +kernel
theorem d_X12_lights_102 : decode cX12_lights 102 = .ok (.ireturn, 1) := by decide +kernel
theorem d_X12_rule_0 : decode cX12_rule 0 = .ok (.iload_n 1, 1) := by decide +kernel
theorem d_X12_rule_1 : decode cX12_rule 1 = .ok (.iconst 0, 1) := by decide +kernel
theorem d_X12_rule_2 : decode cX12_rule 2 = .ok (.iconst 5, 1) := by decide +kernel
theorem d_X12_rule_3 : decode cX12_rule 3 = .ok (.invokestatic 174, 3) := by decide +kernel
theorem d_X12_rule_6 : decode cX12_rule 6 = .ok (.ifCond .eq 42, 3) := by decide +kernel
theorem d_X12_rule_9 : decode cX12_rule 9 = .ok (.iload_n 2, 1) := by decide +kernel
theorem d_X12_rule_10 : decode cX12_rule 10 = .ok (.iconst 0, 1) := by decide +kernel
theorem d_X12_rule_11 : decode cX12_rule 11 = .ok (.iconst 2, 1) := by decide +kernel
theorem d_X12_rule_12 : decode cX12_rule 12 = .ok (.invokestatic 174, 3) := by decide +kernel
theorem d_X12_rule_15 : decode cX12_rule 15 = .ok (.ifCond .eq 33, 3) := by decide +kernel
theorem d_X12_rule_18 : decode cX12_rule 18 = .ok (.iload_n 3, 1) := by decide +kernel
theorem d_X12_rule_19 : decode cX12_rule 19 = .ok (.ifCond .lt 29, 3) := by decide +kernel
theorem d_X12_rule_22 : decode cX12_rule 22 = .ok (.iload_n 3, 1) := by decide +kernel
theorem d_X12_rule_23 : decode cX12_rule 23 = .ok (.bipush 100, 2) := by decide +kernel
theorem d_X12_rule_25 : decode cX12_rule 25 = .ok (.idiv, 1) := by decide +kernel
theorem d_X12_rule_26 : decode cX12_rule 26 = .ok (.invokestatic 194, 3) := by decide +kernel
theorem d_X12_rule_29 : decode cX12_rule 29 = .ok (.ifCond .eq 19, 3) := by decide +kernel
theorem d_X12_rule_32 : decode cX12_rule 32 = .ok (.iload_n 3, 1) := by decide +kernel
theorem d_X12_rule_33 : decode cX12_rule 33 = .ok (.bipush 100, 2) := by decide +kernel
theorem d_X12_rule_35 : decode cX12_rule 35 = .ok (.irem, 1) := by decide +kernel
theorem d_X12_rule_36 : decode cX12_rule 36 = .ok (.iload_n 3, 1) := by decide +kernel
theorem d_X12_rule_37 : decode cX12_rule 37 = .ok (.bipush 100, 2) := by decide +kernel
theorem d_X12_rule_39 : decode cX12_rule 39 = .ok (.idiv, 1) := by decide +kernel
theorem d_X12_rule_40 : decode cX12_rule 40 = .ok (.bipush 99, 2) := by decide +kernel
theorem d_X12_rule_42 : decode cX12_rule 42 = .ok (.invokestatic 174, 3) := by decide +kernel
theorem d_X12_rule_45 : decode cX12_rule 45 = .ok (.ifCond .ne 9, 3) := by decide +kernel
theorem d_X12_rule_48 : decode cX12_rule 48 = .ok (.aload_n 0, 1) := by decide +kernel
theorem d_X12_rule_49 : decode cX12_rule 49 = .ok (.iconst 1, 1) := by decide +kernel
theorem d_X12_rule_50 : decode cX12_rule 50 = .ok (.invokevirtual 187, 3) := by decide +kernel
theorem d_X12_rule_53 : decode cX12_rule 53 = .ok (.ireturn, 1) := by decide +kernel
theorem d_X12_rule_54 : decode cX12_rule 54 = .ok (.aload_n 0, 1) := by decide +kernel
theorem d_X12_rule_55 : decode cX12_rule 55 = .ok (.getfield 296, 3) := by decide +kernel
theorem d_X12_rule_58 : decode cX12_rule 58 = .ok (.bipush 8, 2) := by decide +kernel
theorem d_X12_rule_60 : decode cX12_rule 60 = .ok (.if_icmp .ne 9, 3) := by decide +kernel
theorem d_X12_rule_63 : decode cX12_rule 63 = .ok (.aload_n 0, 1) := by decide +kernel
theorem d_X12_rule_64 : decode cX12_rule 64 = .ok (.iconst 2, 1) := by decide +kernel
theorem d_X12_rule_65 : decode cX12_rule 65 = .ok (.invokevirtual 187, 3) := by decide +kernel
theorem d_X12_rule_68 : decode cX12_rule 68 = .ok (.ireturn, 1) := by decide +kernel
theorem d_X12_rule_69 : decode cX12_rule 69 = .ok (.aload_n 0, 1) := by decide +kernel
theorem d_X12_rule_70 : decode cX12_rule 70 = .ok (.getfield 95, 3) := by decide +kernel
theorem d_X12_rule_73 : decode cX12_rule 73 = .ok (.aload_n 0, 1) := by decide +kernel
theorem d_X12_rule_74 : decode cX12_rule 74 = .ok (.getfield 296, 3) := by decide +kernel
theorem d_X12_rule_77 : decode cX12_rule 77 = .ok (.iload_n 1, 1) := by decide +kernel
theorem d_X12_rule_78 : decode cX12_rule 78 = .ok (.iastore, 1) := by decide +kernel
theorem d_X12_rule_79 : decode cX12_rule 79 = .ok (.aload_n 0, 1) := by decide +kernel
theorem d_X12_rule_80 : decode cX12_rule 80 = .ok (.getfield 98, 3) := by decide +kernel
theorem d_X12_rule_83 : decode cX12_rule 83 = .ok (.aload_n 0, 1) := by decide +kernel
theorem d_X12_rule_84 : decode cX12_rule 84 = .ok (.getfield 296, 3) := by decide +kernel
theorem d_X12_rule_87 : decode cX12_rule 87 = .ok (.iload_n 2, 1) := by decide +kernel
theorem d_X12_rule_88 : decode cX12_rule 88 = .ok (.iastore, 1) := by decide +kernel
theorem d_X12_rule_89 : decode cX12_rule 89 = .ok (.aload_n 0, 1) := by decide +kernel
theorem d_X12_rule_90 : decode cX12_rule 90 = .ok (.getfield 101, 3) := by decide +kernel
theorem d_X12_rule_93 : decode cX12_rule 93 = .ok (.aload_n 0, 1) := by decide +kernel
theorem d_X12_rule_94 : decode cX12_rule 94 = .ok (.getfield 296, 3) := by decide +kernel
theorem d_X12_rule_97 : decode cX12_rule 97 = .ok (.iload_n 3, 1) := by decide +kernel
theorem d_X12_rule_98 : decode cX12_rule 98 = .ok (.bipush 100, 2) := by decide +kernel
theorem d_X12_rule_100 : decode cX12_rule 100 = .ok (.idiv, 1) := by decide +kernel
theorem d_X12_rule_101 : decode cX12_rule 101 = .ok (.iastore, 1) := by decide +kernel
theorem d_X12_rule_102 : decode cX12_rule 102 = .ok (.aload_n 0, 1) := by decide +kernel
theorem d_X12_rule_103 : decode cX12_rule 103 = .ok (.getfield 104, 3) := by decide +kernel
theorem d_X12_rule_106 : decode cX12_rule 106 = .ok (.aload_n 0, 1) := by decide +kernel
theorem d_X12_rule_107 : decode cX12_rule 107 = .ok (.getfield 296, 3) := by decide +kernel
theorem d_X12_rule_110 : decode cX12_rule 110 = .ok (.iload_n 3, 1) := by decide +kernel
theorem d_X12_rule_111 : decode cX12_rule 111 = .ok (.bipush 100, 2) := by decide +kernel
theorem d_X12_rule_113 : decode cX12_rule 113 = .ok (.irem, 1) := by decide +kernel
theorem d_X12_rule_114 : decode cX12_rule 114 = .ok (.iastore, 1) := by decide +kernel
theorem d_X12_rule_115 : decode cX12_rule 115 = .ok (.aload_n 0, 1) := by decide +kernel
theorem d_X12_rule_116 : decode cX12_rule 116 = .ok (.dup, 1) := by decide +kernel
theorem d_X12_rule_117 : decode cX12_rule 117 = .ok (.getfield 296, 3) := by decide +kernel
theorem d_X12_rule_120 : decode cX12_rule 120 = .ok (.iconst 1, 1) := by decide +kernel
theorem d_X12_rule_121 : decode cX12_rule 121 = .ok (.iadd, 1) := by decide +kernel
theorem d_X12_rule_122 : decode cX12_rule 122 = .ok (.putfield 296, 3) := by decide +kernel
theorem d_X12_rule_125 : decode cX12_rule 125 = .ok (.aload_n 0, 1) := by decide +kernel
theorem d_X12_rule_126 : decode cX12_rule 126 = .ok (.aload_n 0, 1) := by decide +kernel
theorem d_X12_rule_127 : decode cX12_rule 127 = .ok (.getfield 296, 3) := by decide +kernel
theorem d_X12_rule_130 : decode cX12_rule 130 = .ok (.iconst 1, 1) := by decide +kernel
theorem d_X12_rule_131 : decode cX12_rule 131 = .ok (.isub, 1) := by decide +kernel
theorem d_X12_rule_132 : decode cX12_rule 132 = .ok (.invokevirtual 191, 3) := by decide +kernel
theorem d_X12_rule_135 : decode cX12_rule 135 = .ok (.ireturn, 1) := by decide +kernel
theorem d_X12_isUnder_0 : decode cX12_isUnder 0 = .ok (.iload_n 1, 1) := by decide +kernel
theorem d_X12_isUnder_1 : decode cX12_isUnder 1 = .ok (.ifCond .eq 18, 3) := by decide +kernel
theorem d_X12_isUnder_4 : decode cX12_isUnder 4 = .ok (.iload_n 0, 1) := by decide +kernel
theorem d_X12_isUnder_5 : decode cX12_isUnder 5 = .ok (.iload_n 1, 1) := by decide +kernel
theorem d_X12_isUnder_6 : decode cX12_isUnder 6 = .ok (.if_icmp .eq 13, 3) := by decide +kernel
theorem d_X12_isUnder_9 : decode cX12_isUnder 9 = .ok (.iload_n 1, 1) := by decide +kernel
theorem d_X12_isUnder_10 : decode cX12_isUnder 10 = .ok (.iconst 1, 1) := by decide +kernel
theorem d_X12_isUnder_11 : decode cX12_isUnder 11 = .ok (.if_icmp .ne 12, 3) := by decide +kernel
theorem d_X12_isUnder_14 : decode cX12_isUnder 14 = .ok (.iload_n 0, 1) := by decide +kernel
theorem d_X12_isUnder_15 : decode cX12_isUnder 15 = .ok (.iconst 3, 1) := by decide +kernel
theorem d_X12_isUnder_16 : decode cX12_isUnder 16 = .ok (.if_icmp .ne 7, 3) := by decide +kernel
theorem d_X12_isUnder_19 : decode cX12_isUnder 19 = .ok (.iconst 1, 1) := by decide +kernel
theorem d_X12_isUnder_20 : decode cX12_isUnder 20 = .ok (.goto 4, 3) := by decide +kernel
theorem d_X12_isUnder_23 : decode cX12_isUnder 23 = .ok (.iconst 0, 1) := by decide +kernel
theorem d_X12_isUnder_24 : decode cX12_isUnder 24 = .ok (.ireturn, 1) := by decide +kernel
theorem d_X12_tells_0 : decode cX12_tells 0 = .ok (.aload_n 0, 1) := by decide +kernel
theorem d_X12_tells_1 : decode cX12_tells 1 = .ok (.getfield 98, 3) := by decide +kernel
theorem d_X12_tells_4 : decode cX12_tells 4 = .ok (.iload_n 1, 1) := by decide +kernel
theorem d_X12_tells_5 : decode cX12_tells 5 = .ok (.iaload, 1) := by decide +kernel
theorem d_X12_tells_6 : decode cX12_tells 6 = .ok (.ifCond .ne 25, 3) := by decide +kernel
theorem d_X12_tells_9 : decode cX12_tells 9 = .ok (.iload 4, 2) := by decide +kernel
theorem d_X12_tells_11 : decode cX12_tells 11 = .ok (.iload 5, 2) := by decide +kernel
theorem d_X12_tells_13 : decode cX12_tells 13 = .ok (.if_icmp .ne 7, 3) := by decide +kernel
theorem d_X12_tells_16 : decode cX12_tells 16 = .ok (.iconst (-1), 1) := by decide +kernel
theorem d_X12_tells_17 : decode cX12_tells 17 = .ok (.goto 13, 3) := by decide +kernel
theorem d_X12_tells_20 : decode cX12_tells 20 = .ok (.iload 4, 2) := by decide +kernel
theorem d_X12_tells_22 : decode cX12_tells 22 = .ok (.ifCond .eq 7, 3) := by decide +kernel
theorem d_X12_tells_25 : decode cX12_tells 25 = .ok (.iload_n 2, 1) := by decide +kernel
theorem d_X12_tells_26 : decode cX12_tells 26 = .ok (.goto 4, 3) := by decide +kernel
theorem d_X12_tells_29 : decode cX12_tells 29 = .ok (.iload_n 3, 1) := by decide +kernel
theorem d_X12_tells_30 : decode cX12_tells 30 = .ok (.ireturn, 1) := by decide +kernel
theorem d_X12_tells_31 : decode cX12_tells 31 = .ok (.aload_n 0, 1) := by decide +kernel
theorem d_X12_tells_32 : decode cX12_tells 32 = .ok (.getfield 98, 3) := by decide +kernel
theorem d_X12_tells_35 : decode cX12_tells 35 = .ok (.iload_n 1, 1) := by decide +kernel
theorem d_X12_tells_36 : decode cX12_tells 36 = .ok (.iaload, 1) := by decide +kernel
theorem d_X12_tells_37 : decode cX12_tells 37 = .ok (.iconst 1, 1) := by decide +kernel
theorem d_X12_tells_38 : decode cX12_tells 38 = .ok (.if_icmp .ne 36, 3) := by decide +kernel
theorem d_X12_tells_41 : decode cX12_tells 41 = .ok (.aload_n 0, 1) := by decide +kernel
theorem d_X12_tells_42 : decode cX12_tells 42 = .ok (.iload_n 2, 1) := by decide +kernel
theorem d_X12_tells_43 : decode cX12_tells 43 = .ok (.invokevirtual 241, 3) := by decide +kernel
theorem d_X12_tells_46 : decode cX12_tells 46 = .ok (.aload_n 0, 1) := by decide +kernel
theorem d_X12_tells_47 : decode cX12_tells 47 = .ok (.iload_n 3, 1) := by decide +kernel
theorem d_X12_tells_48 : decode cX12_tells 48 = .ok (.invokevirtual 241, 3) := by decide +kernel
theorem d_X12_tells_51 : decode cX12_tells 51 = .ok (.isub, 1) := by decide +kernel
theorem d_X12_tells_52 : decode cX12_tells 52 = .ok (.istore 6, 2) := by decide +kernel
theorem d_X12_tells_54 : decode cX12_tells 54 = .ok (.iload 6, 2) := by decide +kernel
theorem d_X12_tells_56 : decode cX12_tells 56 = .ok (.ifCond .ne 7, 3) := by decide +kernel
theorem d_X12_tells_59 : decode cX12_tells 59 = .ok (.iconst (-1), 1) := by decide +kernel
theorem d_X12_tells_60 : decode cX12_tells 60 = .ok (.goto 13, 3) := by decide +kernel
theorem d_X12_tells_63 : decode cX12_tells 63 = .ok (.iload 6, 2) := by decide +kernel
theorem d_X12_tells_65 : decode cX12_tells 65 = .ok (.ifCond .ge 7, 3) := by decide +kernel
theorem d_X12_tells_68 : decode cX12_tells 68 = .ok (.iload_n 2, 1) := by decide +kernel
theorem d_X12_tells_69 : decode cX12_tells 69 = .ok (.goto 4, 3) := by decide +kernel
theorem d_X12_tells_72 : decode cX12_tells 72 = .ok (.iload_n 3, 1) := by decide +kernel
theorem d_X12_tells_73 : decode cX12_tells 73 = .ok (.ireturn, 1) := by decide +kernel
theorem d_X12_tells_74 : decode cX12_tells 74 = .ok (.iload_n 2, 1) := by decide +kernel
theorem d_X12_tells_75 : decode cX12_tells 75 = .ok (.iload_n 3, 1) := by decide +kernel
theorem d_X12_tells_76 : decode cX12_tells 76 = .ok (.if_icmp .le 7, 3) := by decide +kernel
theorem d_X12_tells_79 : decode cX12_tells 79 = .ok (.iload_n 2, 1) := by decide +kernel
theorem d_X12_tells_80 : decode cX12_tells 80 = .ok (.goto 4, 3) := by decide +kernel
theorem d_X12_tells_83 : decode cX12_tells 83 = .ok (.iload_n 3, 1) := by decide +kernel
theorem d_X12_tells_84 : decode cX12_tells 84 = .ok (.ireturn, 1) := by decide +kernel
theorem d_X12_gives_0 : decode cX12_gives 0 = .ok (.aload_n 0, 1) := by decide +kernel
theorem d_X12_gives_1 : decode cX12_gives 1 = .ok (.iload_n 1, 1) := by decide +kernel
theorem d_X12_gives_2 : decode cX12_gives 2 = .ok (.invokevirtual 238, 3) := by decide +kernel
theorem d_X12_gives_5 : decode cX12_gives 5 = .ok (.ifCond .eq 24, 3) := by decide +kernel
theorem d_X12_gives_8 : decode cX12_gives 8 = .ok (.aload_n 0, 1) := by decide +kernel
theorem d_X12_gives_9 : decode cX12_gives 9 = .ok (.iload_n 2, 1) := by decide +kernel
theorem d_X12_gives_10 : decode cX12_gives 10 = .ok (.invokevirtual 238, 3) := by decide +kernel
theorem d_X12_gives_13 : decode cX12_gives 13 = .ok (.ifCond .eq 16, 3) := by decide +kernel
theorem d_X12_gives_16 : decode cX12_gives 16 = .ok (.iload_n 1, 1) := by decide +kernel
theorem d_X12_gives_17 : decode cX12_gives 17 = .ok (.iload_n 2, 1) := by decide +kernel
theorem d_X12_gives_18 : decode cX12_gives 18 = .ok (.if_icmp .eq 11, 3) := by decide +kernel
theorem d_X12_gives_21 : decode cX12_gives 21 = .ok (.aload_n 0, 1) := by decide +kernel
theorem d_X12_gives_22 : decode cX12_gives 22 = .ok (.iload_n 3, 1) := by decide +kernel
theorem d_X12_gives_23 : decode cX12_gives 23 = .ok (.invokevirtual 202, 3) := by decide +kernel
theorem d_X12_gives_26 : decode cX12_gives 26 = .ok (.ifCond .ne 5, 3) := by decide +kernel
theorem d_X12_gives_29 : decode cX12_gives 29 = .ok (.iconst (-1), 1) := by decide +kernel
theorem d_X12_gives_30 : decode cX12_gives 30 = .ok (.ireturn, 1) := by decide +kernel
theorem d_X12_gives_31 : decode cX12_gives 31 = .ok (.iconst 0, 1) := by decide +kernel
theorem d_X12_gives_32 : decode cX12_gives 32 = .ok (.istore 6, 2) := by decide +kernel
theorem d_X12_gives_34 : decode cX12_gives 34 = .ok (.iload 6, 2) := by decide +kernel
theorem d_X12_gives_36 : decode cX12_gives 36 = .ok (.aload_n 0, 1) := by decide +kernel
theorem d_X12_gives_37 : decode cX12_gives 37 = .ok (.getfield 296, 3) := by decide +kernel
theorem d_X12_gives_40 : decode cX12_gives 40 = .ok (.if_icmp .ge 75, 3) := by decide +kernel
theorem d_X12_gives_43 : decode cX12_gives 43 = .ok (.aload_n 0, 1) := by decide +kernel
theorem d_X12_gives_44 : decode cX12_gives 44 = .ok (.invokevirtual 218, 3) := by decide +kernel
theorem d_X12_gives_47 : decode cX12_gives 47 = .ok (.aload_n 0, 1) := by decide +kernel
theorem d_X12_gives_48 : decode cX12_gives 48 = .ok (.getfield 101, 3) := by decide +kernel
theorem d_X12_gives_51 : decode cX12_gives 51 = .ok (.iload 6, 2) := by decide +kernel
theorem d_X12_gives_53 : decode cX12_gives 53 = .ok (.iaload, 1) := by decide +kernel
theorem d_X12_gives_54 : decode cX12_gives 54 = .ok (.aload_n 0, 1) := by decide +kernel
theorem d_X12_gives_55 : decode cX12_gives 55 = .ok (.getfield 104, 3) := by decide +kernel
theorem d_X12_gives_58 : decode cX12_gives 58 = .ok (.iload 6, 2) := by decide +kernel
theorem d_X12_gives_60 : decode cX12_gives 60 = .ok (.iaload, 1) := by decide +kernel
theorem d_X12_gives_61 : decode cX12_gives 61 = .ok (.invokestatic 174, 3) := by decide +kernel
theorem d_X12_gives_64 : decode cX12_gives 64 = .ok (.ifCond .eq 45, 3) := by decide +kernel
theorem d_X12_gives_67 : decode cX12_gives 67 = .ok (.aload_n 0, 1) := by decide +kernel
theorem d_X12_gives_68 : decode cX12_gives 68 = .ok (.getfield 7, 3) := by decide +kernel
theorem d_X12_gives_71 : decode cX12_gives 71 = .ok (.iload_n 3, 1) := by decide +kernel
theorem d_X12_gives_72 : decode cX12_gives 72 = .ok (.iaload, 1) := by decide +kernel
theorem d_X12_gives_73 : decode cX12_gives 73 = .ok (.aload_n 0, 1) := by decide +kernel
theorem d_X12_gives_74 : decode cX12_gives 74 = .ok (.getfield 95, 3) := by decide +kernel
theorem d_X12_gives_77 : decode cX12_gives 77 = .ok (.iload 6, 2) := by decide +kernel
theorem d_X12_gives_79 : decode cX12_gives 79 = .ok (.iaload, 1) := by decide +kernel
theorem d_X12_gives_80 : decode cX12_gives 80 = .ok (.invokestatic 299, 3) := by decide +kernel
theorem d_X12_gives_83 : decode cX12_gives 83 = .ok (.ifCond .eq 26, 3) := by decide +kernel
theorem d_X12_gives_86 : decode cX12_gives 86 = .ok (.aload_n 0, 1) := by decide +kernel
theorem d_X12_gives_87 : decode cX12_gives 87 = .ok (.iload 6, 2) := by decide +kernel
theorem d_X12_gives_89 : decode cX12_gives 89 = .ok (.iload_n 1, 1) := by decide +kernel
theorem d_X12_gives_90 : decode cX12_gives 90 = .ok (.iload_n 2, 1) := by decide +kernel
theorem d_X12_gives_91 : decode cX12_gives 91 = .ok (.iload 4, 2) := by decide +kernel
theorem d_X12_gives_93 : decode cX12_gives 93 = .ok (.iload 5, 2) := by decide +kernel
theorem d_X12_gives_95 : decode cX12_gives 95 = .ok (.invokevirtual 303, 3) := by decide +kernel
theorem d_X12_gives_98 : decode cX12_gives 98 = .ok (.istore 7, 2) := by decide +kernel
theorem d_X12_gives_100 : decode cX12_gives 100 = .ok (.iload 7, 2) := by decide +kernel
theorem d_X12_gives_102 : decode cX12_gives 102 = .ok (.iconst (-1), 1) := by decide +kernel
theorem d_X12_gives_103 : decode cX12_gives 103 = .ok (.if_icmp .eq 6, 3) := by decide +kernel
theorem d_X12_gives_106 : decode cX12_gives 106 = .ok (.iload 7, 2) := by decide +kernel
theorem d_X12_gives_108 : decode cX12_gives 108 = .ok (.ireturn, 1) := by decide +kernel
theorem d_X12_gives_109 : decode cX12_gives 109 = .ok (.iinc 6 1, 3) := by decide +kernel
theorem d_X12_gives_112 : decode cX12_gives 112 = .ok (.goto (-78), 3) := by decide +kernel
theorem d_X12_gives_115 : decode cX12_gives 115 = .ok (.iconst (-1), 1) := by decide +kernel
theorem d_X12_gives_116 : decode cX12_gives 116 = .ok (.ireturn, 1) := by decide +kernel
theorem d_X12_image_0 : decode cX12_image 0 = .ok (.aload_n 0, 1) := by decide +kernel
theorem d_X12_image_1 : decode cX12_image 1 = .ok (.getfield 116, 3) := by decide +kernel
theorem d_X12_image_4 : decode cX12_image 4 = .ok (.iconst 0, 1) := by decide +kernel
theorem d_X12_image_5 : decode cX12_image 5 = .ok (.aload_n 0, 1) := by decide +kernel
theorem d_X12_image_6 : decode cX12_image 6 = .ok (.getfield 171, 3) := by decide +kernel
theorem d_X12_image_9 : decode cX12_image 9 = .ok (.iastore, 1) := by decide +kernel
theorem d_X12_image_10 : decode cX12_image 10 = .ok (.aload_n 0, 1) := by decide +kernel
theorem d_X12_image_11 : decode cX12_image 11 = .ok (.getfield 116, 3) := by decide +kernel
theorem d_X12_image_14 : decode cX12_image 14 = .ok (.iconst 1, 1) := by decide +kernel
theorem d_X12_image_15 : decode cX12_image 15 = .ok (.aload_n 0, 1) := by decide +kernel
theorem d_X12_image_16 : decode cX12_image 16 = .ok (.getfield 178, 3) := by decide +kernel
theorem d_X12_image_19 : decode cX12_image 19 = .ok (.iastore, 1) := by decide +kernel
theorem d_X12_image_20 : decode cX12_image 20 = .ok (.aload_n 0, 1) := by decide +kernel
theorem d_X12_image_21 : decode cX12_image 21 = .ok (.getfield 116, 3) := by decide +kernel
theorem d_X12_image_24 : decode cX12_image 24 = .ok (.iconst 2, 1) := by decide +kernel
theorem d_X12_image_25 : decode cX12_image 25 = .ok (.aload_n 0, 1) := by decide +kernel
theorem d_X12_image_26 : decode cX12_image 26 = .ok (.getfield 181, 3) := by decide +kernel
theorem d_X12_image_29 : decode cX12_image 29 = .ok (.iastore, 1) := by decide +kernel
theorem d_X12_image_30 : decode cX12_image 30 = .ok (.aload_n 0, 1) := by decide +kernel
theorem d_X12_image_31 : decode cX12_image 31 = .ok (.getfield 116, 3) := by decide +kernel
theorem d_X12_image_34 : decode cX12_image 34 = .ok (.iconst 3, 1) := by decide +kernel
theorem d_X12_image_35 : decode cX12_image 35 = .ok (.aload_n 0, 1) := by decide +kernel
theorem d_X12_image_36 : decode cX12_image 36 = .ok (.getfield 287, 3) := by decide +kernel
theorem d_X12_image_39 : decode cX12_image 39 = .ok (.iastore, 1) := by decide +kernel
theorem d_X12_image_40 : decode cX12_image 40 = .ok (.aload_n 0, 1) := by decide +kernel
theorem d_X12_image_41 : decode cX12_image 41 = .ok (.getfield 116, 3) := by decide +kernel
theorem d_X12_image_44 : decode cX12_image 44 = .ok (.iconst 4, 1) := by decide +kernel
theorem d_X12_image_45 : decode cX12_image 45 = .ok (.aload_n 0, 1) := by decide +kernel
theorem d_X12_image_46 : decode cX12_image 46 = .ok (.getfield 296, 3) := by decide +kernel
theorem d_X12_image_49 : decode cX12_image 49 = .ok (.iastore, 1) := by decide +kernel
theorem d_X12_image_50 : decode cX12_image 50 = .ok (.aload_n 0, 1) := by decide +kernel
theorem d_X12_image_51 : decode cX12_image 51 = .ok (.getfield 116, 3) := by decide +kernel
theorem d_X12_image_54 : decode cX12_image 54 = .ok (.iconst 5, 1) := by decide +kernel
theorem d_X12_image_55 : decode cX12_image 55 = .ok (.aload_n 0, 1) := by decide +kernel
theorem d_X12_image_56 : decode cX12_image 56 = .ok (.getfield 184, 3) := by decide +kernel
theorem d_X12_image_59 : decode cX12_image 59 = .ok (.iastore, 1) := by decide +kernel
theorem d_X12_image_60 : decode cX12_image 60 = .ok (.aload_n 0, 1) := by decide +kernel
theorem d_X12_image_61 : decode cX12_image 61 = .ok (.getfield 116, 3) := by decide +kernel
theorem d_X12_image_64 : decode cX12_image 64 = .ok (.bipush 6, 2) := by decide +kernel
theorem d_X12_image_66 : decode cX12_image 66 = .ok (.aload_n 0, 1) := by decide +kernel
theorem d_X12_image_67 : decode cX12_image 67 = .ok (.getfield 244, 3) := by decide +kernel
theorem d_X12_image_70 : decode cX12_image 70 = .ok (.iastore, 1) := by decide +kernel
theorem d_X12_image_71 : decode cX12_image 71 = .ok (.iconst 0, 1) := by decide +kernel
theorem d_X12_image_72 : decode cX12_image 72 = .ok (.istore_n 1, 1) := by decide +kernel
theorem d_X12_image_73 : decode cX12_image 73 = .ok (.iload_n 1, 1) := by decide +kernel
theorem d_X12_image_74 : decode cX12_image 74 = .ok (.sipush 1000, 3) := by decide +kernel
theorem d_X12_image_77 : decode cX12_image 77 = .ok (.if_icmp .ge 33, 3) := by decide +kernel
theorem d_X12_image_80 : decode cX12_image 80 = .ok (.aload_n 0, 1) := by decide +kernel
theorem d_X12_image_81 : decode cX12_image 81 = .ok (.getfield 122, 3) := by decide +kernel
theorem d_X12_image_84 : decode cX12_image 84 = .ok (.iload_n 1, 1) := by decide +kernel
theorem d_X12_image_85 : decode cX12_image 85 = .ok (.aload_n 0, 1) := by decide +kernel
theorem d_X12_image_86 : decode cX12_image 86 = .ok (.getfield 23, 3) := by decide +kernel
theorem d_X12_image_89 : decode cX12_image 89 = .ok (.iload_n 1, 1) := by decide +kernel
theorem d_X12_image_90 : decode cX12_image 90 = .ok (.iaload, 1) := by decide +kernel
theorem d_X12_image_91 : decode cX12_image 91 = .ok (.iastore, 1) := by decide +kernel
theorem d_X12_image_92 : decode cX12_image 92 = .ok (.aload_n 0, 1) := by decide +kernel
theorem d_X12_image_93 : decode cX12_image 93 = .ok (.getfield 125, 3) := by decide +kernel
theorem d_X12_image_96 : decode cX12_image 96 = .ok (.iload_n 1, 1) := by decide +kernel
theorem d_X12_image_97 : decode cX12_image 97 = .ok (.aload_n 0, 1) := by decide +kernel
theorem d_X12_image_98 : decode cX12_image 98 = .ok (.getfield 26, 3) := by decide +kernel
theorem d_X12_image_101 : decode cX12_image 101 = .ok (.iload_n 1, 1) := by decide +kernel
theorem d_X12_image_102 : decode cX12_image 102 = .ok (.baload, 1) := by decide +kernel
theorem d_X12_image_103 : decode cX12_image 103 = .ok (.bastore, 1) := by decide +kernel
theorem d_X12_image_104 : decode cX12_image 104 = .ok (.iinc 1 1, 3) := by decide +kernel
theorem d_X12_image_107 : decode cX12_image 107 = .ok (.goto (-34), 3) := by decide +kernel
theorem d_X12_image_110 : decode cX12_image 110 = .ok (.iconst 0, 1) := by decide +kernel
theorem d_X12_image_111 : decode cX12_image 111 = .ok (.istore_n 1, 1) := by decide +kernel
theorem d_X12_image_112 : decode cX12_image 112 = .ok (.iload_n 1, 1) := by decide +kernel
theorem d_X12_image_113 : decode cX12_image 113 = .ok (.bipush 100, 2) := by decide +kernel
theorem d_X12_image_115 : decode cX12_image 115 = .ok (.if_icmp .ge 45, 3) := by decide +kernel
theorem d_X12_image_118 : decode cX12_image 118 = .ok (.aload_n 0, 1) := by decide +kernel
theorem d_X12_image_119 : decode cX12_image 119 = .ok (.getfield 128, 3) := by decide +kernel
theorem d_X12_image_122 : decode cX12_image 122 = .ok (.iload_n 1, 1) := by decide +kernel
theorem d_X12_image_123 : decode cX12_image 123 = .ok (.aload_n 0, 1) := by decide +kernel
theorem d_X12_image_124 : decode cX12_image 124 = .ok (.getfield 29, 3) := by decide +kernel
theorem d_X12_image_127 : decode cX12_image 127 = .ok (.iload_n 1, 1) := by decide +kernel
theorem d_X12_image_128 : decode cX12_image 128 = .ok (.iaload, 1) := by decide +kernel
theorem d_X12_image_129 : decode cX12_image 129 = .ok (.iastore, 1) := by decide +kernel
theorem d_X12_image_130 : decode cX12_image 130 = .ok (.aload_n 0, 1) := by decide +kernel
theorem d_X12_image_131 : decode cX12_image 131 = .ok (.getfield 131, 3) := by decide +kernel
theorem d_X12_image_134 : decode cX12_image 134 = .ok (.iload_n 1, 1) := by decide +kernel
theorem d_X12_image_135 : decode cX12_image 135 = .ok (.aload_n 0, 1) := by decide +kernel
theorem d_X12_image_136 : decode cX12_image 136 = .ok (.getfield 32, 3) := by decide +kernel
theorem d_X12_image_139 : decode cX12_image 139 = .ok (.iload_n 1, 1) := by decide +kernel
theorem d_X12_image_140 : decode cX12_image 140 = .ok (.baload, 1) := by decide +kernel
theorem d_X12_image_141 : decode cX12_image 141 = .ok (.bastore, 1) := by decide +kernel
theorem d_X12_image_142 : decode cX12_image 142 = .ok (.aload_n 0, 1) := by decide +kernel
theorem d_X12_image_143 : decode cX12_image 143 = .ok (.getfield 134, 3) := by decide +kernel
theorem d_X12_image_146 : decode cX12_image 146 = .ok (.iload_n 1, 1) := by decide +kernel
theorem d_X12_image_147 : decode cX12_image 147 = .ok (.aload_n 0, 1) := by decide +kernel
theorem d_X12_image_148 : decode cX12_image 148 = .ok (.getfield 35, 3) := by decide +kernel
theorem d_X12_image_151 : decode cX12_image 151 = .ok (.iload_n 1, 1) := by decide +kernel
theorem d_X12_image_152 : decode cX12_image 152 = .ok (.baload, 1) := by decide +kernel
theorem d_X12_image_153 : decode cX12_image 153 = .ok (.bastore, 1) := by decide +kernel
theorem d_X12_image_154 : decode cX12_image 154 = .ok (.iinc 1 1, 3) := by decide +kernel
theorem d_X12_image_157 : decode cX12_image 157 = .ok (.goto (-45), 3) := by decide +kernel
theorem d_X12_image_160 : decode cX12_image 160 = .ok (.iconst 0, 1) := by decide +kernel
theorem d_X12_image_161 : decode cX12_image 161 = .ok (.istore_n 1, 1) := by decide +kernel
theorem d_X12_image_162 : decode cX12_image 162 = .ok (.iload_n 1, 1) := by decide +kernel
theorem d_X12_image_163 : decode cX12_image 163 = .ok (.sipush 160, 3) := by decide +kernel
theorem d_X12_image_166 : decode cX12_image 166 = .ok (.if_icmp .ge 33, 3) := by decide +kernel
theorem d_X12_image_169 : decode cX12_image 169 = .ok (.aload_n 0, 1) := by decide +kernel
theorem d_X12_image_170 : decode cX12_image 170 = .ok (.getfield 140, 3) := by decide +kernel
theorem d_X12_image_173 : decode cX12_image 173 = .ok (.iload_n 1, 1) := by decide +kernel
theorem d_X12_image_174 : decode cX12_image 174 = .ok (.aload_n 0, 1) := by decide +kernel
theorem d_X12_image_175 : decode cX12_image 175 = .ok (.getfield 62, 3) := by decide +kernel
theorem d_X12_image_178 : decode cX12_image 178 = .ok (.iload_n 1, 1) := by decide +kernel
theorem d_X12_image_179 : decode cX12_image 179 = .ok (.iaload, 1) := by decide +kernel
theorem d_X12_image_180 : decode cX12_image 180 = .ok (.iastore, 1) := by decide +kernel
theorem d_X12_image_181 : decode cX12_image 181 = .ok (.aload_n 0, 1) := by decide +kernel
theorem d_X12_image_182 : decode cX12_image 182 = .ok (.getfield 143, 3) := by decide +kernel
theorem d_X12_image_185 : decode cX12_image 185 = .ok (.iload_n 1, 1) := by decide +kernel
theorem d_X12_image_186 : decode cX12_image 186 = .ok (.aload_n 0, 1) := by decide +kernel
theorem d_X12_image_187 : decode cX12_image 187 = .ok (.getfield 65, 3) := by decide +kernel
theorem d_X12_image_190 : decode cX12_image 190 = .ok (.iload_n 1, 1) := by decide +kernel
theorem d_X12_image_191 : decode cX12_image 191 = .ok (.iaload, 1) := by decide +kernel
theorem d_X12_image_192 : decode cX12_image 192 = .ok (.iastore, 1) := by decide +kernel
theorem d_X12_image_193 : decode cX12_image 193 = .ok (.iinc 1 1, 3) := by decide +kernel
theorem d_X12_image_196 : decode cX12_image 196 = .ok (.goto (-34), 3) := by decide +kernel
theorem d_X12_image_199 : decode cX12_image 199 = .ok (.iconst 0, 1) := by decide +kernel
theorem d_X12_image_200 : decode cX12_image 200 = .ok (.istore_n 1, 1) := by decide +kernel
theorem d_X12_image_201 : decode cX12_image 201 = .ok (.iload_n 1, 1) := by decide +kernel
theorem d_X12_image_202 : decode cX12_image 202 = .ok (.bipush 12, 2) := by decide +kernel
theorem d_X12_image_204 : decode cX12_image 204 = .ok (.if_icmp .ge 36, 3) := by decide +kernel
theorem d_X12_image_207 : decode cX12_image 207 = .ok (.aload_n 0, 1) := by decide +kernel
theorem d_X12_image_208 : decode cX12_image 208 = .ok (.getfield 149, 3) := by decide +kernel
theorem d_X12_image_211 : decode cX12_image 211 = .ok (.iload_n 1, 1) := by decide +kernel
theorem d_X12_image_212 : decode cX12_image 212 = .ok (.aload_n 0, 1) := by decide +kernel
theorem d_X12_image_213 : decode cX12_image 213 = .ok (.getfield 80, 3) := by decide +kernel
theorem d_X12_image_216 : decode cX12_image 216 = .ok (.iload_n 1, 1) := by decide +kernel
theorem d_X12_image_217 : decode cX12_image 217 = .ok (.iaload, 1) := by decide +kernel
theorem d_X12_image_218 : decode cX12_image 218 = .ok (.iastore, 1) := by decide +kernel
theorem d_X12_image_219 : decode cX12_image 219 = .ok (.aload_n 0, 1) := by decide +kernel
theorem d_X12_image_220 : decode cX12_image 220 = .ok (.getfield 149, 3) := by decide +kernel
theorem d_X12_image_223 : decode cX12_image 223 = .ok (.bipush 12, 2) := by decide +kernel
theorem d_X12_image_225 : decode cX12_image 225 = .ok (.iload_n 1, 1) := by decide +kernel
theorem d_X12_image_226 : decode cX12_image 226 = .ok (.iadd, 1) := by decide +kernel
theorem d_X12_image_227 : decode cX12_image 227 = .ok (.aload_n 0, 1) := by decide +kernel
theorem d_X12_image_228 : decode cX12_image 228 = .ok (.getfield 83, 3) := by decide +kernel
theorem d_X12_image_231 : decode cX12_image 231 = .ok (.iload_n 1, 1) := by decide +kernel
theorem d_X12_image_232 : decode cX12_image 232 = .ok (.iaload, 1) := by decide +kernel
theorem d_X12_image_233 : decode cX12_image 233 = .ok (.iastore, 1) := by decide +kernel
theorem d_X12_image_234 : decode cX12_image 234 = .ok (.iinc 1 1, 3) := by decide +kernel
theorem d_X12_image_237 : decode cX12_image 237 = .ok (.goto (-36), 3) := by decide +kernel
theorem d_X12_image_240 : decode cX12_image 240 = .ok (.iconst 0, 1) := by decide +kernel
theorem d_X12_image_241 : decode cX12_image 241 = .ok (.istore_n 1, 1) := by decide +kernel
theorem d_X12_image_242 : decode cX12_image 242 = .ok (.iload_n 1, 1) := by decide +kernel
theorem d_X12_image_243 : decode cX12_image 243 = .ok (.bipush 11, 2) := by decide +kernel
theorem d_X12_image_245 : decode cX12_image 245 = .ok (.if_icmp .ge 21, 3) := by decide +kernel
theorem d_X12_image_248 : decode cX12_image 248 = .ok (.aload_n 0, 1) := by decide +kernel
theorem d_X12_image_249 : decode cX12_image 249 = .ok (.getfield 146, 3) := by decide +kernel
theorem d_X12_image_252 : decode cX12_image 252 = .ok (.iload_n 1, 1) := by decide +kernel
theorem d_X12_image_253 : decode cX12_image 253 = .ok (.aload_n 0, 1) := by decide +kernel
theorem d_X12_image_254 : decode cX12_image 254 = .ok (.getfield 68, 3) := by decide +kernel
theorem d_X12_image_257 : decode cX12_image 257 = .ok (.iload_n 1, 1) := by decide +kernel
theorem d_X12_image_258 : decode cX12_image 258 = .ok (.iaload, 1) := by decide +kernel
theorem d_X12_image_259 : decode cX12_image 259 = .ok (.iastore, 1) := by decide +kernel
theorem d_X12_image_260 : decode cX12_image 260 = .ok (.iinc 1 1, 3) := by decide +kernel
theorem d_X12_image_263 : decode cX12_image 263 = .ok (.goto (-21), 3) := by decide +kernel
theorem d_X12_image_266 : decode cX12_image 266 = .ok (.iconst 0, 1) := by decide +kernel
theorem d_X12_image_267 : decode cX12_image 267 = .ok (.istore_n 1, 1) := by decide +kernel
theorem d_X12_image_268 : decode cX12_image 268 = .ok (.iload_n 1, 1) := by decide +kernel
theorem d_X12_image_269 : decode cX12_image 269 = .ok (.bipush 10, 2) := by decide +kernel
theorem d_X12_image_271 : decode cX12_image 271 = .ok (.if_icmp .ge 21, 3) := by decide +kernel
theorem d_X12_image_274 : decode cX12_image 274 = .ok (.aload_n 0, 1) := by decide +kernel
theorem d_X12_image_275 : decode cX12_image 275 = .ok (.getfield 119, 3) := by decide +kernel
theorem d_X12_image_278 : decode cX12_image 278 = .ok (.iload_n 1, 1) := by decide +kernel
theorem d_X12_image_279 : decode cX12_image 279 = .ok (.aload_n 0, 1) := by decide +kernel
theorem d_X12_image_280 : decode cX12_image 280 = .ok (.getfield 19, 3) := by decide +kernel
theorem d_X12_image_283 : decode cX12_image 283 = .ok (.iload_n 1, 1) := by decide +kernel
theorem d_X12_image_284 : decode cX12_image 284 = .ok (.baload, 1) := by decide +kernel
theorem d_X12_image_285 : decode cX12_image 285 = .ok (.bastore, 1) := by decide +kernel
theorem d_X12_image_286 : decode cX12_image 286 = .ok (.iinc 1 1, 3) := by decide +kernel
theorem d_X12_image_289 : decode cX12_image 289 = .ok (.goto (-21), 3) := by decide +kernel
theorem d_X12_image_292 : decode cX12_image 292 = .ok (.iconst 0, 1) := by decide +kernel
theorem d_X12_image_293 : decode cX12_image 293 = .ok (.istore_n 1, 1) := by decide +kernel
theorem d_X12_image_294 : decode cX12_image 294 = .ok (.iload_n 1, 1) := by decide +kernel
theorem d_X12_image_295 : decode cX12_image 295 = .ok (.iconst 5, 1) := by decide +kernel
theorem d_X12_image_296 : decode cX12_image 296 = .ok (.if_icmp .ge 87, 3) := by decide +kernel
theorem d_X12_image_299 : decode cX12_image 299 = .ok (.aload_n 0, 1) := by decide +kernel
theorem d_X12_image_300 : decode cX12_image 300 = .ok (.getfield 137, 3) := by decide +kernel
theorem d_X12_image_303 : decode cX12_image 303 = .ok (.iconst 5, 1) := by decide +kernel
theorem d_X12_image_304 : decode cX12_image 304 = .ok (.iload_n 1, 1) := by decide +kernel
theorem d_X12_image_305 : decode cX12_image 305 = .ok (.imul, 1) := by decide +kernel
theorem d_X12_image_306 : decode cX12_image 306 = .ok (.aload_n 0, 1) := by decide +kernel
theorem d_X12_image_307 : decode cX12_image 307 = .ok (.getfield 47, 3) := by decide +kernel
theorem d_X12_image_310 : decode cX12_image 310 = .ok (.iload_n 1, 1) := by decide +kernel
theorem d_X12_image_311 : decode cX12_image 311 = .ok (.iaload, 1) := by decide +kernel
theorem d_X12_image_312 : decode cX12_image 312 = .ok (.iastore, 1) := by decide +kernel
theorem d_X12_image_313 : decode cX12_image 313 = .ok (.aload_n 0, 1) := by decide +kernel
theorem d_X12_image_314 : decode cX12_image 314 = .ok (.getfield 137, 3) := by decide +kernel
theorem d_X12_image_317 : decode cX12_image 317 = .ok (.iconst 5, 1) := by decide +kernel
theorem d_X12_image_318 : decode cX12_image 318 = .ok (.iload_n 1, 1) := by decide +kernel
theorem d_X12_image_319 : decode cX12_image 319 = .ok (.imul, 1) := by decide +kernel
theorem d_X12_image_320 : decode cX12_image 320 = .ok (.iconst 1, 1) := by decide +kernel
theorem d_X12_image_321 : decode cX12_image 321 = .ok (.iadd, 1) := by decide +kernel
theorem d_X12_image_322 : decode cX12_image 322 = .ok (.aload_n 0, 1) := by decide +kernel
theorem d_X12_image_323 : decode cX12_image 323 = .ok (.getfield 50, 3) := by decide +kernel
theorem d_X12_image_326 : decode cX12_image 326 = .ok (.iload_n 1, 1) := by decide +kernel
theorem d_X12_image_327 : decode cX12_image 327 = .ok (.iaload, 1) := by decide +kernel
theorem d_X12_image_328 : decode cX12_image 328 = .ok (.iastore, 1) := by decide +kernel
theorem d_X12_image_329 : decode cX12_image 329 = .ok (.aload_n 0, 1) := by decide +kernel
theorem d_X12_image_330 : decode cX12_image 330 = .ok (.getfield 137, 3) := by decide +kernel
theorem d_X12_image_333 : decode cX12_image 333 = .ok (.iconst 5, 1) := by decide +kernel
theorem d_X12_image_334 : decode cX12_image 334 = .ok (.iload_n 1, 1) := by decide +kernel
theorem d_X12_image_335 : decode cX12_image 335 = .ok (.imul, 1) := by decide +kernel
theorem d_X12_image_336 : decode cX12_image 336 = .ok (.iconst 2, 1) := by decide +kernel
theorem d_X12_image_337 : decode cX12_image 337 = .ok (.iadd, 1) := by decide +kernel
theorem d_X12_image_338 : decode cX12_image 338 = .ok (.aload_n 0, 1) := by decide +kernel
theorem d_X12_image_339 : decode cX12_image 339 = .ok (.getfield 53, 3) := by decide +kernel
theorem d_X12_image_342 : decode cX12_image 342 = .ok (.iload_n 1, 1) := by decide +kernel
theorem d_X12_image_343 : decode cX12_image 343 = .ok (.iaload, 1) := by decide +kernel
theorem d_X12_image_344 : decode cX12_image 344 = .ok (.iastore, 1) := by decide +kernel
theorem d_X12_image_345 : decode cX12_image 345 = .ok (.aload_n 0, 1) := by decide +kernel
theorem d_X12_image_346 : decode cX12_image 346 = .ok (.getfield 137, 3) := by decide +kernel
theorem d_X12_image_349 : decode cX12_image 349 = .ok (.iconst 5, 1) := by decide +kernel
theorem d_X12_image_350 : decode cX12_image 350 = .ok (.iload_n 1, 1) := by decide +kernel
theorem d_X12_image_351 : decode cX12_image 351 = .ok (.imul, 1) := by decide +kernel
theorem d_X12_image_352 : decode cX12_image 352 = .ok (.iconst 3, 1) := by decide +kernel
theorem d_X12_image_353 : decode cX12_image 353 = .ok (.iadd, 1) := by decide +kernel
theorem d_X12_image_354 : decode cX12_image 354 = .ok (.aload_n 0, 1) := by decide +kernel
theorem d_X12_image_355 : decode cX12_image 355 = .ok (.getfield 56, 3) := by decide +kernel
theorem d_X12_image_358 : decode cX12_image 358 = .ok (.iload_n 1, 1) := by decide +kernel
theorem d_X12_image_359 : decode cX12_image 359 = .ok (.iaload, 1) := by decide +kernel
theorem d_X12_image_360 : decode cX12_image 360 = .ok (.iastore, 1) := by decide +kernel
theorem d_X12_image_361 : decode cX12_image 361 = .ok (.aload_n 0, 1) := by decide +kernel
theorem d_X12_image_362 : decode cX12_image 362 = .ok (.getfield 137, 3) := by decide +kernel
theorem d_X12_image_365 : decode cX12_image 365 = .ok (.iconst 5, 1) := by decide +kernel
theorem d_X12_image_366 : decode cX12_image 366 = .ok (.iload_n 1, 1) := by decide +kernel
theorem d_X12_image_367 : decode cX12_image 367 = .ok (.imul, 1) := by decide +kernel
theorem d_X12_image_368 : decode cX12_image 368 = .ok (.iconst 4, 1) := by decide +kernel
theorem d_X12_image_369 : decode cX12_image 369 = .ok (.iadd, 1) := by decide +kernel
theorem d_X12_image_370 : decode cX12_image 370 = .ok (.aload_n 0, 1) := by decide +kernel
theorem d_X12_image_371 : decode cX12_image 371 = .ok (.getfield 59, 3) := by decide +kernel
theorem d_X12_image_374 : decode cX12_image 374 = .ok (.iload_n 1, 1) := by decide +kernel
theorem d_X12_image_375 : decode cX12_image 375 = .ok (.iaload, 1) := by decide +kernel
theorem d_X12_image_376 : decode cX12_image 376 = .ok (.iastore, 1) := by decide +kernel
theorem d_X12_image_377 : decode cX12_image 377 = .ok (.iinc 1 1, 3) := by decide +kernel
theorem d_X12_image_380 : decode cX12_image 380 = .ok (.goto (-86), 3) := by decide +kernel
theorem d_X12_image_383 : decode cX12_image 383 = .ok (.aload_n 0, 1) := by decide +kernel
theorem d_X12_image_384 : decode cX12_image 384 = .ok (.iconst 1, 1) := by decide +kernel
theorem d_X12_image_385 : decode cX12_image 385 = .ok (.putfield 307, 3) := by decide +kernel
theorem d_X12_image_388 : decode cX12_image 388 = .ok (.aload_n 0, 1) := by decide +kernel
theorem d_X12_image_389 : decode cX12_image 389 = .ok (.iconst 1, 1) := by decide +kernel
theorem d_X12_image_390 : decode cX12_image 390 = .ok (.invokevirtual 191, 3) := by decide +kernel
theorem d_X12_image_393 : decode cX12_image 393 = .ok (.ireturn, 1) := by decide +kernel
theorem d_X12_lay_0 : decode cX12_lay 0 = .ok (.iconst 0, 1) := by decide +kernel
theorem d_X12_lay_1 : decode cX12_lay 1 = .ok (.istore_n 1, 1) := by decide +kernel
theorem d_X12_lay_2 : decode cX12_lay 2 = .ok (.iload_n 1, 1) := by decide +kernel
theorem d_X12_lay_3 : decode cX12_lay 3 = .ok (.sipush 1000, 3) := by decide +kernel
theorem d_X12_lay_6 : decode cX12_lay 6 = .ok (.if_icmp .ge 33, 3) := by decide +kernel
theorem d_X12_lay_9 : decode cX12_lay 9 = .ok (.aload_n 0, 1) := by decide +kernel
theorem d_X12_lay_10 : decode cX12_lay 10 = .ok (.getfield 23, 3) := by decide +kernel
theorem d_X12_lay_13 : decode cX12_lay 13 = .ok (.iload_n 1, 1) := by decide +kernel
theorem d_X12_lay_14 : decode cX12_lay 14 = .ok (.aload_n 0, 1) := by decide +kernel
theorem d_X12_lay_15 : decode cX12_lay 15 = .ok (.getfield 122, 3) := by decide +kernel
theorem d_X12_lay_18 : decode cX12_lay 18 = .ok (.iload_n 1, 1) := by decide +kernel
theorem d_X12_lay_19 : decode cX12_lay 19 = .ok (.iaload, 1) := by decide +kernel
theorem d_X12_lay_20 : decode cX12_lay 20 = .ok (.iastore, 1) := by decide +kernel
theorem d_X12_lay_21 : decode cX12_lay 21 = .ok (.aload_n 0, 1) := by decide +kernel
theorem d_X12_lay_22 : decode cX12_lay 22 = .ok (.getfield 26, 3) := by decide +kernel
theorem d_X12_lay_25 : decode cX12_lay 25 = .ok (.iload_n 1, 1) := by decide +kernel
theorem d_X12_lay_26 : decode cX12_lay 26 = .ok (.aload_n 0, 1) := by decide +kernel
theorem d_X12_lay_27 : decode cX12_lay 27 = .ok (.getfield 125, 3) := by decide +kernel
theorem d_X12_lay_30 : decode cX12_lay 30 = .ok (.iload_n 1, 1) := by decide +kernel
theorem d_X12_lay_31 : decode cX12_lay 31 = .ok (.baload, 1) := by decide +kernel
theorem d_X12_lay_32 : decode cX12_lay 32 = .ok (.bastore, 1) := by decide +kernel
theorem d_X12_lay_33 : decode cX12_lay 33 = .ok (.iinc 1 1, 3) := by decide +kernel
theorem d_X12_lay_36 : decode cX12_lay 36 = .ok (.goto (-34), 3) := by decide +kernel
theorem d_X12_lay_39 : decode cX12_lay 39 = .ok (.iconst 0, 1) := by decide +kernel
theorem d_X12_lay_40 : decode cX12_lay 40 = .ok (.istore_n 1, 1) := by decide +kernel
theorem d_X12_lay_41 : decode cX12_lay 41 = .ok (.iload_n 1, 1) := by decide +kernel
theorem d_X12_lay_42 : decode cX12_lay 42 = .ok (.bipush 100, 2) := by decide +kernel
theorem d_X12_lay_44 : decode cX12_lay 44 = .ok (.if_icmp .ge 45, 3) := by decide +kernel
theorem d_X12_lay_47 : decode cX12_lay 47 = .ok (.aload_n 0, 1) := by decide +kernel
theorem d_X12_lay_48 : decode cX12_lay 48 = .ok (.getfield 29, 3) := by decide +kernel
theorem d_X12_lay_51 : decode cX12_lay 51 = .ok (.iload_n 1, 1) := by decide +kernel
theorem d_X12_lay_52 : decode cX12_lay 52 = .ok (.aload_n 0, 1) := by decide +kernel
theorem d_X12_lay_53 : decode cX12_lay 53 = .ok (.getfield 128, 3) := by decide +kernel
theorem d_X12_lay_56 : decode cX12_lay 56 = .ok (.iload_n 1, 1) := by decide +kernel
theorem d_X12_lay_57 : decode cX12_lay 57 = .ok (.iaload, 1) := by decide +kernel
theorem d_X12_lay_58 : decode cX12_lay 58 = .ok (.iastore, 1) := by decide +kernel
theorem d_X12_lay_59 : decode cX12_lay 59 = .ok (.aload_n 0, 1) := by decide +kernel
theorem d_X12_lay_60 : decode cX12_lay 60 = .ok (.getfield 32, 3) := by decide +kernel
theorem d_X12_lay_63 : decode cX12_lay 63 = .ok (.iload_n 1, 1) := by decide +kernel
theorem d_X12_lay_64 : decode cX12_lay 64 = .ok (.aload_n 0, 1) := by decide +kernel
theorem d_X12_lay_65 : decode cX12_lay 65 = .ok (.getfield 131, 3) := by decide +kernel
theorem d_X12_lay_68 : decode cX12_lay 68 = .ok (.iload_n 1, 1) := by decide +kernel
theorem d_X12_lay_69 : decode cX12_lay 69 = .ok (.baload, 1) := by decide +kernel
theorem d_X12_lay_70 : decode cX12_lay 70 = .ok (.bastore, 1) := by decide +kernel
theorem d_X12_lay_71 : decode cX12_lay 71 = .ok (.aload_n 0, 1) := by decide +kernel
theorem d_X12_lay_72 : decode cX12_lay 72 = .ok (.getfield 35, 3) := by decide +kernel
theorem d_X12_lay_75 : decode cX12_lay 75 = .ok (.iload_n 1, 1) := by decide +kernel
theorem d_X12_lay_76 : decode cX12_lay 76 = .ok (.aload_n 0, 1) := by decide +kernel
theorem d_X12_lay_77 : decode cX12_lay 77 = .ok (.getfield 134, 3) := by decide +kernel
theorem d_X12_lay_80 : decode cX12_lay 80 = .ok (.iload_n 1, 1) := by decide +kernel
theorem d_X12_lay_81 : decode cX12_lay 81 = .ok (.baload, 1) := by decide +kernel
theorem d_X12_lay_82 : decode cX12_lay 82 = .ok (.bastore, 1) := by decide +kernel
theorem d_X12_lay_83 : decode cX12_lay 83 = .ok (.iinc 1 1, 3) := by decide +kernel
theorem d_X12_lay_86 : decode cX12_lay 86 = .ok (.goto (-45), 3) := by decide +kernel
theorem d_X12_lay_89 : decode cX12_lay 89 = .ok (.iconst 0, 1) := by decide +kernel
theorem d_X12_lay_90 : decode cX12_lay 90 = .ok (.istore_n 1, 1) := by decide +kernel
theorem d_X12_lay_91 : decode cX12_lay 91 = .ok (.iload_n 1, 1) := by decide +kernel
theorem d_X12_lay_92 : decode cX12_lay 92 = .ok (.sipush 160, 3) := by decide +kernel
theorem d_X12_lay_95 : decode cX12_lay 95 = .ok (.if_icmp .ge 33, 3) := by decide +kernel
theorem d_X12_lay_98 : decode cX12_lay 98 = .ok (.aload_n 0, 1) := by decide +kernel
theorem d_X12_lay_99 : decode cX12_lay 99 = .ok (.getfield 62, 3) := by decide +kernel
theorem d_X12_lay_102 : decode cX12_lay 102 = .ok (.iload_n 1, 1) := by decide +kernel
theorem d_X12_lay_103 : decode cX12_lay 103 = .ok (.aload_n 0, 1) := by decide +kernel
theorem d_X12_lay_104 : decode cX12_lay 104 = .ok (.getfield 140, 3) := by decide +kernel
theorem d_X12_lay_107 : decode cX12_lay 107 = .ok (.iload_n 1, 1) := by decide +kernel
theorem d_X12_lay_108 : decode cX12_lay 108 = .ok (.iaload, 1) := by decide +kernel
theorem d_X12_lay_109 : decode cX12_lay 109 = .ok (.iastore, 1) := by decide +kernel
theorem d_X12_lay_110 : decode cX12_lay 110 = .ok (.aload_n 0, 1) := by decide +kernel
theorem d_X12_lay_111 : decode cX12_lay 111 = .ok (.getfield 65, 3) := by decide +kernel
theorem d_X12_lay_114 : decode cX12_lay 114 = .ok (.iload_n 1, 1) := by decide +kernel
theorem d_X12_lay_115 : decode cX12_lay 115 = .ok (.aload_n 0, 1) := by decide +kernel
theorem d_X12_lay_116 : decode cX12_lay 116 = .ok (.getfield 143, 3) := by decide +kernel
theorem d_X12_lay_119 : decode cX12_lay 119 = .ok (.iload_n 1, 1) := by decide +kernel
theorem d_X12_lay_120 : decode cX12_lay 120 = .ok (.iaload, 1) := by decide +kernel
theorem d_X12_lay_121 : decode cX12_lay 121 = .ok (.iastore, 1) := by decide +kernel
theorem d_X12_lay_122 : decode cX12_lay 122 = .ok (.iinc 1 1, 3) := by decide +kernel
theorem d_X12_lay_125 : decode cX12_lay 125 = .ok (.goto (-34), 3) := by decide +kernel
theorem d_X12_lay_128 : decode cX12_lay 128 = .ok (.iconst 0, 1) := by decide +kernel
theorem d_X12_lay_129 : decode cX12_lay 129 = .ok (.istore_n 1, 1) := by decide +kernel
theorem d_X12_lay_130 : decode cX12_lay 130 = .ok (.iload_n 1, 1) := by decide +kernel
theorem d_X12_lay_131 : decode cX12_lay 131 = .ok (.bipush 12, 2) := by decide +kernel
theorem d_X12_lay_133 : decode cX12_lay 133 = .ok (.if_icmp .ge 36, 3) := by decide +kernel
theorem d_X12_lay_136 : decode cX12_lay 136 = .ok (.aload_n 0, 1) := by decide +kernel
theorem d_X12_lay_137 : decode cX12_lay 137 = .ok (.getfield 80, 3) := by decide +kernel
theorem d_X12_lay_140 : decode cX12_lay 140 = .ok (.iload_n 1, 1) := by decide +kernel
theorem d_X12_lay_141 : decode cX12_lay 141 = .ok (.aload_n 0, 1) := by decide +kernel
theorem d_X12_lay_142 : decode cX12_lay 142 = .ok (.getfield 149, 3) := by decide +kernel
theorem d_X12_lay_145 : decode cX12_lay 145 = .ok (.iload_n 1, 1) := by decide +kernel
theorem d_X12_lay_146 : decode cX12_lay 146 = .ok (.iaload, 1) := by decide +kernel
theorem d_X12_lay_147 : decode cX12_lay 147 = .ok (.iastore, 1) := by decide +kernel
theorem d_X12_lay_148 : decode cX12_lay 148 = .ok (.aload_n 0, 1) := by decide +kernel
theorem d_X12_lay_149 : decode cX12_lay 149 = .ok (.getfield 83, 3) := by decide +kernel
theorem d_X12_lay_152 : decode cX12_lay 152 = .ok (.iload_n 1, 1) := by decide +kernel
theorem d_X12_lay_153 : decode cX12_lay 153 = .ok (.aload_n 0, 1) := by decide +kernel
theorem d_X12_lay_154 : decode cX12_lay 154 = .ok (.getfield 149, 3) := by decide +kernel
theorem d_X12_lay_157 : decode cX12_lay 157 = .ok (.bipush 12, 2) := by decide +kernel
theorem d_X12_lay_159 : decode cX12_lay 159 = .ok (.iload_n 1, 1) := by decide +kernel
theorem d_X12_lay_160 : decode cX12_lay 160 = .ok (.iadd, 1) := by decide +kernel
theorem d_X12_lay_161 : decode cX12_lay 161 = .ok (.iaload, 1) := by decide +kernel
theorem d_X12_lay_162 : decode cX12_lay 162 = .ok (.iastore, 1) := by decide +kernel
theorem d_X12_lay_163 : decode cX12_lay 163 = .ok (.iinc 1 1, 3) := by decide +kernel
theorem d_X12_lay_166 : decode cX12_lay 166 = .ok (.goto (-36), 3) := by decide +kernel
theorem d_X12_lay_169 : decode cX12_lay 169 = .ok (.iconst 0, 1) := by decide +kernel
theorem d_X12_lay_170 : decode cX12_lay 170 = .ok (.istore_n 1, 1) := by decide +kernel
theorem d_X12_lay_171 : decode cX12_lay 171 = .ok (.iload_n 1, 1) := by decide +kernel
theorem d_X12_lay_172 : decode cX12_lay 172 = .ok (.bipush 11, 2) := by decide +kernel
theorem d_X12_lay_174 : decode cX12_lay 174 = .ok (.if_icmp .ge 21, 3) := by decide +kernel
theorem d_X12_lay_177 : decode cX12_lay 177 = .ok (.aload_n 0, 1) := by decide +kernel
theorem d_X12_lay_178 : decode cX12_lay 178 = .ok (.getfield 68, 3) := by decide +kernel
theorem d_X12_lay_181 : decode cX12_lay 181 = .ok (.iload_n 1, 1) := by decide +kernel
theorem d_X12_lay_182 : decode cX12_lay 182 = .ok (.aload_n 0, 1) := by decide +kernel
theorem d_X12_lay_183 : decode cX12_lay 183 = .ok (.getfield 146, 3) := by decide +kernel
theorem d_X12_lay_186 : decode cX12_lay 186 = .ok (.iload_n 1, 1) := by decide +kernel
theorem d_X12_lay_187 : decode cX12_lay 187 = .ok (.iaload, 1) := by decide +kernel
theorem d_X12_lay_188 : decode cX12_lay 188 = .ok (.iastore, 1) := by decide +kernel
theorem d_X12_lay_189 : decode cX12_lay 189 = .ok (.iinc 1 1, 3) := by decide +kernel
theorem d_X12_lay_192 : decode cX12_lay 192 = .ok (.goto (-21), 3) := by decide +kernel
theorem d_X12_lay_195 : decode cX12_lay 195 = .ok (.iconst 0, 1) := by decide +kernel
theorem d_X12_lay_196 : decode cX12_lay 196 = .ok (.istore_n 1, 1) := by decide +kernel
theorem d_X12_lay_197 : decode cX12_lay 197 = .ok (.iload_n 1, 1) := by decide +kernel
theorem d_X12_lay_198 : decode cX12_lay 198 = .ok (.bipush 10, 2) := by decide +kernel
theorem d_X12_lay_200 : decode cX12_lay 200 = .ok (.if_icmp .ge 21, 3) := by decide +kernel
theorem d_X12_lay_203 : decode cX12_lay 203 = .ok (.aload_n 0, 1) := by decide +kernel
theorem d_X12_lay_204 : decode cX12_lay 204 = .ok (.getfield 19, 3) := by decide +kernel
theorem d_X12_lay_207 : decode cX12_lay 207 = .ok (.iload_n 1, 1) := by decide +kernel
theorem d_X12_lay_208 : decode cX12_lay 208 = .ok (.aload_n 0, 1) := by decide +kernel
theorem d_X12_lay_209 : decode cX12_lay 209 = .ok (.getfield 119, 3) := by decide +kernel
theorem d_X12_lay_212 : decode cX12_lay 212 = .ok (.iload_n 1, 1) := by decide +kernel
theorem d_X12_lay_213 : decode cX12_lay 213 = .ok (.baload, 1) := by decide +kernel
theorem d_X12_lay_214 : decode cX12_lay 214 = .ok (.bastore, 1) := by decide +kernel
theorem d_X12_lay_215 : decode cX12_lay 215 = .ok (.iinc 1 1, 3) := by decide +kernel
theorem d_X12_lay_218 : decode cX12_lay 218 = .ok (.goto (-21), 3) := by decide +kernel
theorem d_X12_lay_221 : decode cX12_lay 221 = .ok (.iconst 0, 1) := by decide +kernel
theorem d_X12_lay_222 : decode cX12_lay 222 = .ok (.istore_n 1, 1) := by decide +kernel
theorem d_X12_lay_223 : decode cX12_lay 223 = .ok (.iload_n 1, 1) := by decide +kernel
theorem d_X12_lay_224 : decode cX12_lay 224 = .ok (.iconst 5, 1) := by decide +kernel
theorem d_X12_lay_225 : decode cX12_lay 225 = .ok (.if_icmp .ge 87, 3) := by decide +kernel
theorem d_X12_lay_228 : decode cX12_lay 228 = .ok (.aload_n 0, 1) := by decide +kernel
theorem d_X12_lay_229 : decode cX12_lay 229 = .ok (.getfield 47, 3) := by decide +kernel
theorem d_X12_lay_232 : decode cX12_lay 232 = .ok (.iload_n 1, 1) := by decide +kernel
theorem d_X12_lay_233 : decode cX12_lay 233 = .ok (.aload_n 0, 1) := by decide +kernel
theorem d_X12_lay_234 : decode cX12_lay 234 = .ok (.getfield 137, 3) := by decide +kernel
theorem d_X12_lay_237 : decode cX12_lay 237 = .ok (.iconst 5, 1) := by decide +kernel
theorem d_X12_lay_238 : decode cX12_lay 238 = .ok (.iload_n 1, 1) := by decide +kernel
theorem d_X12_lay_239 : decode cX12_lay 239 = .ok (.imul, 1) := by decide +kernel
theorem d_X12_lay_240 : decode cX12_lay 240 = .ok (.iaload, 1) := by decide +kernel
theorem d_X12_lay_241 : decode cX12_lay 241 = .ok (.iastore, 1) := by decide +kernel
theorem d_X12_lay_242 : decode cX12_lay 242 = .ok (.aload_n 0, 1) := by decide +kernel
theorem d_X12_lay_243 : decode cX12_lay 243 = .ok (.getfield 50, 3) := by decide +kernel
theorem d_X12_lay_246 : decode cX12_lay 246 = .ok (.iload_n 1, 1) := by decide +kernel
theorem d_X12_lay_247 : decode cX12_lay 247 = .ok (.aload_n 0, 1) := by decide +kernel
theorem d_X12_lay_248 : decode cX12_lay 248 = .ok (.getfield 137, 3) := by decide +kernel
theorem d_X12_lay_251 : decode cX12_lay 251 = .ok (.iconst 5, 1) := by decide +kernel
theorem d_X12_lay_252 : decode cX12_lay 252 = .ok (.iload_n 1, 1) := by decide +kernel
theorem d_X12_lay_253 : decode cX12_lay 253 = .ok (.imul, 1) := by decide +kernel
theorem d_X12_lay_254 : decode cX12_lay 254 = .ok (.iconst 1, 1) := by decide +kernel
theorem d_X12_lay_255 : decode cX12_lay 255 = .ok (.iadd, 1) := by decide +kernel
theorem d_X12_lay_256 : decode cX12_lay 256 = .ok (.iaload, 1) := by decide +kernel
theorem d_X12_lay_257 : decode cX12_lay 257 = .ok (.iastore, 1) := by decide +kernel
theorem d_X12_lay_258 : decode cX12_lay 258 = .ok (.aload_n 0, 1) := by decide +kernel
theorem d_X12_lay_259 : decode cX12_lay 259 = .ok (.getfield 53, 3) := by decide +kernel
theorem d_X12_lay_262 : decode cX12_lay 262 = .ok (.iload_n 1, 1) := by decide +kernel
theorem d_X12_lay_263 : decode cX12_lay 263 = .ok (.aload_n 0, 1) := by decide +kernel
theorem d_X12_lay_264 : decode cX12_lay 264 = .ok (.getfield 137, 3) := by decide +kernel
theorem d_X12_lay_267 : decode cX12_lay 267 = .ok (.iconst 5, 1) := by decide +kernel
theorem d_X12_lay_268 : decode cX12_lay 268 = .ok (.iload_n 1, 1) := by decide +kernel
theorem d_X12_lay_269 : decode cX12_lay 269 = .ok (.imul, 1) := by decide +kernel
theorem d_X12_lay_270 : decode cX12_lay 270 = .ok (.iconst 2, 1) := by decide +kernel
theorem d_X12_lay_271 : decode cX12_lay 271 = .ok (.iadd, 1) := by decide +kernel
theorem d_X12_lay_272 : decode cX12_lay 272 = .ok (.iaload, 1) := by decide +kernel
theorem d_X12_lay_273 : decode cX12_lay 273 = .ok (.iastore, 1) := by decide +kernel
theorem d_X12_lay_274 : decode cX12_lay 274 = .ok (.aload_n 0, 1) := by decide +kernel
theorem d_X12_lay_275 : decode cX12_lay 275 = .ok (.getfield 56, 3) := by decide +kernel
theorem d_X12_lay_278 : decode cX12_lay 278 = .ok (.iload_n 1, 1) := by decide +kernel
theorem d_X12_lay_279 : decode cX12_lay 279 = .ok (.aload_n 0, 1) := by decide +kernel
theorem d_X12_lay_280 : decode cX12_lay 280 = .ok (.getfield 137, 3) := by decide +kernel
theorem d_X12_lay_283 : decode cX12_lay 283 = .ok (.iconst 5, 1) := by decide +kernel
theorem d_X12_lay_284 : decode cX12_lay 284 = .ok (.iload_n 1, 1) := by decide +kernel
theorem d_X12_lay_285 : decode cX12_lay 285 = .ok (.imul, 1) := by decide +kernel
theorem d_X12_lay_286 : decode cX12_lay 286 = .ok (.iconst 3, 1) := by decide +kernel
theorem d_X12_lay_287 : decode cX12_lay 287 = .ok (.iadd, 1) := by decide +kernel
theorem d_X12_lay_288 : decode cX12_lay 288 = .ok (.iaload, 1) := by decide +kernel
theorem d_X12_lay_289 : decode cX12_lay 289 = .ok (.iastore, 1) := by decide +kernel
theorem d_X12_lay_290 : decode cX12_lay 290 = .ok (.aload_n 0, 1) := by decide +kernel
theorem d_X12_lay_291 : decode cX12_lay 291 = .ok (.getfield 59, 3) := by decide +kernel
theorem d_X12_lay_294 : decode cX12_lay 294 = .ok (.iload_n 1, 1) := by decide +kernel
theorem d_X12_lay_295 : decode cX12_lay 295 = .ok (.aload_n 0, 1) := by decide +kernel
theorem d_X12_lay_296 : decode cX12_lay 296 = .ok (.getfield 137, 3) := by decide +kernel
theorem d_X12_lay_299 : decode cX12_lay 299 = .ok (.iconst 5, 1) := by decide +kernel
theorem d_X12_lay_300 : decode cX12_lay 300 = .ok (.iload_n 1, 1) := by decide +kernel
theorem d_X12_lay_301 : decode cX12_lay 301 = .ok (.imul, 1) := by decide +kernel
theorem d_X12_lay_302 : decode cX12_lay 302 = .ok (.iconst 4, 1) := by decide +kernel
theorem d_X12_lay_303 : decode cX12_lay 303 = .ok (.iadd, 1) := by decide +kernel
theorem d_X12_lay_304 : decode cX12_lay 304 = .ok (.iaload, 1) := by decide +kernel
theorem d_X12_lay_305 : decode cX12_lay 305 = .ok (.iastore, 1) := by decide +kernel
theorem d_X12_lay_306 : decode cX12_lay 306 = .ok (.iinc 1 1, 3) := by decide +kernel
theorem d_X12_lay_309 : decode cX12_lay 309 = .ok (.goto (-86), 3) := by decide +kernel
theorem d_X12_lay_312 : decode cX12_lay 312 = .ok (.return_, 1) := by decide +kernel
theorem d_X12_back_0 : decode cX12_back 0 = .ok (.aload_n 0, 1) := by decide +kernel
theorem d_X12_back_1 : decode cX12_back 1 = .ok (.getfield 311, 3) := by decide +kernel
theorem d_X12_back_4 : decode cX12_back 4 = .ok (.bipush 10, 2) := by decide +kernel
theorem d_X12_back_6 : decode cX12_back 6 = .ok (.if_icmp .ne 9, 3) := by decide +kernel
theorem d_X12_back_9 : decode cX12_back 9 = .ok (.aload_n 0, 1) := by decide +kernel
theorem d_X12_back_10 : decode cX12_back 10 = .ok (.iconst 2, 1) := by decide +kernel
theorem d_X12_back_11 : decode cX12_back 11 = .ok (.invokevirtual 187, 3) := by decide +kernel
theorem d_X12_back_14 : decode cX12_back 14 = .ok (.ireturn, 1) := by decide +kernel
theorem d_X12_back_15 : decode cX12_back 15 = .ok (.aload_n 0, 1) := by decide +kernel
theorem d_X12_back_16 : decode cX12_back 16 = .ok (.getfield 307, 3) := by decide +kernel
theorem d_X12_back_19 : decode cX12_back 19 = .ok (.ifCond .ne 9, 3) := by decide +kernel
theorem d_X12_back_22 : decode cX12_back 22 = .ok (.aload_n 0, 1) := by decide +kernel
theorem d_X12_back_23 : decode cX12_back 23 = .ok (.iconst 3, 1) := by decide +kernel
theorem d_X12_back_24 : decode cX12_back 24 = .ok (.invokevirtual 187, 3) := by decide +kernel
theorem d_X12_back_27 : decode cX12_back 27 = .ok (.ireturn, 1) := by decide +kernel
theorem d_X12_back_28 : decode cX12_back 28 = .ok (.aload_n 0, 1) := by decide +kernel
theorem d_X12_back_29 : decode cX12_back 29 = .ok (.dup, 1) := by decide +kernel
theorem d_X12_back_30 : decode cX12_back 30 = .ok (.getfield 311, 3) := by decide +kernel
theorem d_X12_back_33 : decode cX12_back 33 = .ok (.iconst 1, 1) := by decide +kernel
theorem d_X12_back_34 : decode cX12_back 34 = .ok (.iadd, 1) := by decide +kernel
theorem d_X12_back_35 : decode cX12_back 35 = .ok (.putfield 311, 3) := by decide +kernel
theorem d_X12_back_38 : decode cX12_back 38 = .ok (.aload_n 0, 1) := by decide +kernel
theorem d_X12_back_39 : decode cX12_back 39 = .ok (.aload_n 0, 1) := by decide +kernel
theorem d_X12_back_40 : decode cX12_back 40 = .ok (.getfield 116, 3) := by decide +kernel
theorem d_X12_back_43 : decode cX12_back 43 = .ok (.iconst 0, 1) := by decide +kernel
theorem d_X12_back_44 : decode cX12_back 44 = .ok (.iaload, 1) := by decide +kernel
theorem d_X12_back_45 : decode cX12_back 45 = .ok (.putfield 171, 3) := by decide +kernel
theorem d_X12_back_48 : decode cX12_back 48 = .ok (.aload_n 0, 1) := by decide +kernel
theorem d_X12_back_49 : decode cX12_back 49 = .ok (.aload_n 0, 1) := by decide +kernel
theorem d_X12_back_50 : decode cX12_back 50 = .ok (.getfield 116, 3) := by decide +kernel
theorem d_X12_back_53 : decode cX12_back 53 = .ok (.iconst 1, 1) := by decide +kernel
theorem d_X12_back_54 : decode cX12_back 54 = .ok (.iaload, 1) := by decide +kernel
theorem d_X12_back_55 : decode cX12_back 55 = .ok (.putfield 178, 3) := by decide +kernel
theorem d_X12_back_58 : decode cX12_back 58 = .ok (.aload_n 0, 1) := by decide +kernel
theorem d_X12_back_59 : decode cX12_back 59 = .ok (.aload_n 0, 1) := by decide +kernel
theorem d_X12_back_60 : decode cX12_back 60 = .ok (.getfield 116, 3) := by decide +kernel
theorem d_X12_back_63 : decode cX12_back 63 = .ok (.iconst 2, 1) := by decide +kernel
theorem d_X12_back_64 : decode cX12_back 64 = .ok (.iaload, 1) := by decide +kernel
theorem d_X12_back_65 : decode cX12_back 65 = .ok (.putfield 181, 3) := by decide +kernel
theorem d_X12_back_68 : decode cX12_back 68 = .ok (.aload_n 0, 1) := by decide +kernel
theorem d_X12_back_69 : decode cX12_back 69 = .ok (.aload_n 0, 1) := by decide +kernel
theorem d_X12_back_70 : decode cX12_back 70 = .ok (.getfield 116, 3) := by decide +kernel
theorem d_X12_back_73 : decode cX12_back 73 = .ok (.iconst 3, 1) := by decide +kernel
theorem d_X12_back_74 : decode cX12_back 74 = .ok (.iaload, 1) := by decide +kernel
theorem d_X12_back_75 : decode cX12_back 75 = .ok (.putfield 287, 3) := by decide +kernel
theorem d_X12_back_78 : decode cX12_back 78 = .ok (.aload_n 0, 1) := by decide +kernel
theorem d_X12_back_79 : decode cX12_back 79 = .ok (.aload_n 0, 1) := by decide +kernel
theorem d_X12_back_80 : decode cX12_back 80 = .ok (.getfield 116, 3) := by decide +kernel
theorem d_X12_back_83 : decode cX12_back 83 = .ok (.iconst 4, 1) := by decide +kernel
theorem d_X12_back_84 : decode cX12_back 84 = .ok (.iaload, 1) := by decide +kernel
theorem d_X12_back_85 : decode cX12_back 85 = .ok (.putfield 296, 3) := by decide +kernel
theorem d_X12_back_88 : decode cX12_back 88 = .ok (.aload_n 0, 1) := by decide +kernel
theorem d_X12_back_89 : decode cX12_back 89 = .ok (.aload_n 0, 1) := by decide +kernel
theorem d_X12_back_90 : decode cX12_back 90 = .ok (.getfield 116, 3) := by decide +kernel
theorem d_X12_back_93 : decode cX12_back 93 = .ok (.iconst 5, 1) := by decide +kernel
theorem d_X12_back_94 : decode cX12_back 94 = .ok (.iaload, 1) := by decide +kernel
theorem d_X12_back_95 : decode cX12_back 95 = .ok (.putfield 184, 3) := by decide +kernel
theorem d_X12_back_98 : decode cX12_back 98 = .ok (.aload_n 0, 1) := by decide +kernel
theorem d_X12_back_99 : decode cX12_back 99 = .ok (.aload_n 0, 1) := by decide +kernel
theorem d_X12_back_100 : decode cX12_back 100 = .ok (.getfield 116, 3) := by decide +kernel
theorem d_X12_back_103 : decode cX12_back 103 = .ok (.bipush 6, 2) := by decide +kernel
theorem d_X12_back_105 : decode cX12_back 105 = .ok (.iaload, 1) := by decide +kernel
theorem d_X12_back_106 : decode cX12_back 106 = .ok (.putfield 244, 3) := by decide +kernel
theorem d_X12_back_109 : decode cX12_back 109 = .ok (.aload_n 0, 1) := by decide +kernel
theorem d_X12_back_110 : decode cX12_back 110 = .ok (.invokevirtual 314, 3) := by decide +kernel
theorem d_X12_back_113 : decode cX12_back 113 = .ok (.aload_n 0, 1) := by decide +kernel
theorem d_X12_back_114 : decode cX12_back 114 = .ok (.aload_n 0, 1) := by decide +kernel
theorem d_X12_back_115 : decode cX12_back 115 = .ok (.getfield 184, 3) := by decide +kernel
theorem d_X12_back_118 : decode cX12_back 118 = .ok (.invokevirtual 191, 3) := by decide +kernel
theorem d_X12_back_121 : decode cX12_back 121 = .ok (.ireturn, 1) := by decide +kernel
theorem d_X12_count_0 : decode cX12_count 0 = .ok (.iconst 0, 1) := by decide +kernel
theorem d_X12_count_1 : decode cX12_count 1 = .ok (.istore_n 2, 1) := by decide +kernel
theorem d_X12_count_2 : decode cX12_count 2 = .ok (.iload_n 1, 1) := by decide +kernel
theorem d_X12_count_3 : decode cX12_count 3 = .ok (.tableswitch 142 0 9 #[53, 58, 63, 68, 73, 78, 83, 88, 124, 137], 53) := by decide +kernel
theorem d_X12_count_56 : decode cX12_count 56 = .ok (.aload_n 0, 1) := by decide +kernel
theorem d_X12_count_57 : decode cX12_count 57 = .ok (.getfield 171, 3) := by decide +kernel
theorem d_X12_count_60 : decode cX12_count 60 = .ok (.ireturn, 1) := by decide +kernel
theorem d_X12_count_61 : decode cX12_count 61 = .ok (.aload_n 0, 1) := by decide +kernel
theorem d_X12_count_62 : decode cX12_count 62 = .ok (.getfield 178, 3) := by decide +kernel
theorem d_X12_count_65 : decode cX12_count 65 = .ok (.ireturn, 1) := by decide +kernel
theorem d_X12_count_66 : decode cX12_count 66 = .ok (.aload_n 0, 1) := by decide +kernel
theorem d_X12_count_67 : decode cX12_count 67 = .ok (.getfield 181, 3) := by decide +kernel
theorem d_X12_count_70 : decode cX12_count 70 = .ok (.ireturn, 1) := by decide +kernel
theorem d_X12_count_71 : decode cX12_count 71 = .ok (.aload_n 0, 1) := by decide +kernel
theorem d_X12_count_72 : decode cX12_count 72 = .ok (.getfield 287, 3) := by decide +kernel
theorem d_X12_count_75 : decode cX12_count 75 = .ok (.ireturn, 1) := by decide +kernel
theorem d_X12_count_76 : decode cX12_count 76 = .ok (.aload_n 0, 1) := by decide +kernel
theorem d_X12_count_77 : decode cX12_count 77 = .ok (.getfield 296, 3) := by decide +kernel
theorem d_X12_count_80 : decode cX12_count 80 = .ok (.ireturn, 1) := by decide +kernel
theorem d_X12_count_81 : decode cX12_count 81 = .ok (.aload_n 0, 1) := by decide +kernel
theorem d_X12_count_82 : decode cX12_count 82 = .ok (.getfield 184, 3) := by decide +kernel
theorem d_X12_count_85 : decode cX12_count 85 = .ok (.ireturn, 1) := by decide +kernel
theorem d_X12_count_86 : decode cX12_count 86 = .ok (.aload_n 0, 1) := by decide +kernel
theorem d_X12_count_87 : decode cX12_count 87 = .ok (.getfield 244, 3) := by decide +kernel
theorem d_X12_count_90 : decode cX12_count 90 = .ok (.ireturn, 1) := by decide +kernel
theorem d_X12_count_91 : decode cX12_count 91 = .ok (.iconst 0, 1) := by decide +kernel
theorem d_X12_count_92 : decode cX12_count 92 = .ok (.istore_n 3, 1) := by decide +kernel
theorem d_X12_count_93 : decode cX12_count 93 = .ok (.iload_n 3, 1) := by decide +kernel
theorem d_X12_count_94 : decode cX12_count 94 = .ok (.aload_n 0, 1) := by decide +kernel
theorem d_X12_count_95 : decode cX12_count 95 = .ok (.getfield 178, 3) := by decide +kernel
theorem d_X12_count_98 : decode cX12_count 98 = .ok (.if_icmp .ge 27, 3) := by decide +kernel
theorem d_X12_count_101 : decode cX12_count 101 = .ok (.iload_n 2, 1) := by decide +kernel
theorem d_X12_count_102 : decode cX12_count 102 = .ok (.aload_n 0, 1) := by decide +kernel
theorem d_X12_count_103 : decode cX12_count 103 = .ok (.getfield 47, 3) := by decide +kernel
theorem d_X12_count_106 : decode cX12_count 106 = .ok (.iload_n 3, 1) := by decide +kernel
theorem d_X12_count_107 : decode cX12_count 107 = .ok (.iaload, 1) := by decide +kernel
theorem d_X12_count_108 : decode cX12_count 108 = .ok (.iconst 3, 1) := by decide +kernel
theorem d_X12_count_109 : decode cX12_count 109 = .ok (.if_icmp .ne 7, 3) := by decide +kernel
theorem d_X12_count_112 : decode cX12_count 112 = .ok (.iconst 1, 1) := by decide +kernel
theorem d_X12_count_113 : decode cX12_count 113 = .ok (.goto 4, 3) := by decide +kernel
theorem d_X12_count_116 : decode cX12_count 116 = .ok (.iconst 0, 1) := by decide +kernel
theorem d_X12_count_117 : decode cX12_count 117 = .ok (.iadd, 1) := by decide +kernel
theorem d_X12_count_118 : decode cX12_count 118 = .ok (.istore_n 2, 1) := by decide +kernel
theorem d_X12_count_119 : decode cX12_count 119 = .ok (.iinc 3 1, 3) := by decide +kernel
theorem d_X12_count_122 : decode cX12_count 122 = .ok (.goto (-29), 3) := by decide +kernel
theorem d_X12_count_125 : decode cX12_count 125 = .ok (.iload_n 2, 1) := by decide +kernel
theorem d_X12_count_126 : decode cX12_count 126 = .ok (.ireturn, 1) := by decide +kernel
theorem d_X12_count_127 : decode cX12_count 127 = .ok (.aload_n 0, 1) := by decide +kernel
theorem d_X12_count_128 : decode cX12_count 128 = .ok (.invokevirtual 221, 3) := by decide +kernel
theorem d_X12_count_131 : decode cX12_count 131 = .ok (.ifCond .eq 7, 3) := by decide +kernel
theorem d_X12_count_134 : decode cX12_count 134 = .ok (.iconst 1, 1) := by decide +kernel
theorem d_X12_count_135 : decode cX12_count 135 = .ok (.goto 4, 3) := by decide +kernel
theorem d_X12_count_138 : decode cX12_count 138 = .ok (.iconst 0, 1) := by decide +kernel
theorem d_X12_count_139 : decode cX12_count 139 = .ok (.ireturn, 1) := by decide +kernel
theorem d_X12_count_140 : decode cX12_count 140 = .ok (.aload_n 0, 1) := by decide +kernel
theorem d_X12_count_141 : decode cX12_count 141 = .ok (.getfield 317, 3) := by decide +kernel
theorem d_X12_count_144 : decode cX12_count 144 = .ok (.ireturn, 1) := by decide +kernel
theorem d_X12_count_145 : decode cX12_count 145 = .ok (.iconst (-1), 1) := by decide +kernel
theorem d_X12_count_146 : decode cX12_count 146 = .ok (.ireturn, 1) := by decide +kernel
theorem d_X12_ran_0 : decode cX12_ran 0 = .ok (.aload_n 0, 1) := by decide +kernel
theorem d_X12_ran_1 : decode cX12_ran 1 = .ok (.getfield 317, 3) := by decide +kernel
theorem d_X12_ran_4 : decode cX12_ran 4 = .ok (.bipush 50, 2) := by decide +kernel
theorem d_X12_ran_6 : decode cX12_ran 6 = .ok (.if_icmp .ge 13, 3) := by decide +kernel
theorem d_X12_ran_9 : decode cX12_ran 9 = .ok (.aload_n 0, 1) := by decide +kernel
theorem d_X12_ran_10 : decode cX12_ran 10 = .ok (.getfield 152, 3) := by decide +kernel
theorem d_X12_ran_13 : decode cX12_ran 13 = .ok (.aload_n 0, 1) := by decide +kernel
theorem d_X12_ran_14 : decode cX12_ran 14 = .ok (.getfield 317, 3) := by decide +kernel
theorem d_X12_ran_17 : decode cX12_ran 17 = .ok (.iload_n 1, 1) := by decide +kernel
theorem d_X12_ran_18 : decode cX12_ran 18 = .ok (.iastore, 1) := by decide +kernel
theorem d_X12_ran_19 : decode cX12_ran 19 = .ok (.aload_n 0, 1) := by decide +kernel
theorem d_X12_ran_20 : decode cX12_ran 20 = .ok (.dup, 1) := by decide +kernel
theorem d_X12_ran_21 : decode cX12_ran 21 = .ok (.getfield 317, 3) := by decide +kernel
theorem d_X12_ran_24 : decode cX12_ran 24 = .ok (.iconst 1, 1) := by decide +kernel
theorem d_X12_ran_25 : decode cX12_ran 25 = .ok (.iadd, 1) := by decide +kernel
theorem d_X12_ran_26 : decode cX12_ran 26 = .ok (.putfield 317, 3) := by decide +kernel
theorem d_X12_ran_29 : decode cX12_ran 29 = .ok (.return_, 1) := by decide +kernel
theorem d_X12_bear10_0 : decode cX12_bear10 0 = .ok (.aload_n 0, 1) := by decide +kernel
theorem d_X12_bear10_1 : decode cX12_bear10 1 = .ok (.bipush 10, 2) := by decide +kernel
theorem d_X12_bear10_3 : decode cX12_bear10 3 = .ok (.invokevirtual 320, 3) := by decide +kernel
theorem d_X12_bear10_6 : decode cX12_bear10 6 = .ok (.iload_n 2, 1) := by decide +kernel
theorem d_X12_bear10_7 : decode cX12_bear10 7 = .ok (.aload_n 0, 1) := by decide +kernel
theorem d_X12_bear10_8 : decode cX12_bear10 8 = .ok (.getfield 16, 3) := by decide +kernel
theorem d_X12_bear10_11 : decode cX12_bear10 11 = .ok (.iload_n 1, 1) := by decide +kernel
theorem d_X12_bear10_12 : decode cX12_bear10 12 = .ok (.iaload, 1) := by decide +kernel
theorem d_X12_bear10_13 : decode cX12_bear10 13 = .ok (.iadd, 1) := by decide +kernel
theorem d_X12_bear10_14 : decode cX12_bear10 14 = .ok (.ireturn, 1) := by decide +kernel
theorem d_X12_bear20_0 : decode cX12_bear20 0 = .ok (.aload_n 0, 1) := by decide +kernel
theorem d_X12_bear20_1 : decode cX12_bear20 1 = .ok (.bipush 20, 2) := by decide +kernel
theorem d_X12_bear20_3 : decode cX12_bear20 3 = .ok (.invokevirtual 320, 3) := by decide +kernel
theorem d_X12_bear20_6 : decode cX12_bear20 6 = .ok (.aload_n 0, 1) := by decide +kernel
theorem d_X12_bear20_7 : decode cX12_bear20 7 = .ok (.iload_n 1, 1) := by decide +kernel
theorem d_X12_bear20_8 : decode cX12_bear20 8 = .ok (.iload_n 2, 1) := by decide +kernel
theorem d_X12_bear20_9 : decode cX12_bear20 9 = .ok (.invokevirtual 324, 3) := by decide +kernel
theorem d_X12_bear20_12 : decode cX12_bear20 12 = .ok (.aload_n 0, 1) := by decide +kernel
theorem d_X12_bear20_13 : decode cX12_bear20 13 = .ok (.getfield 13, 3) := by decide +kernel
theorem d_X12_bear20_16 : decode cX12_bear20 16 = .ok (.iload_n 1, 1) := by decide +kernel
theorem d_X12_bear20_17 : decode cX12_bear20 17 = .ok (.iaload, 1) := by decide +kernel
theorem d_X12_bear20_18 : decode cX12_bear20 18 = .ok (.isub, 1) := by decide +kernel
theorem d_X12_bear20_19 : decode cX12_bear20 19 = .ok (.ireturn, 1) := by decide +kernel
theorem d_X12_bearOf_0 : decode cX12_bearOf 0 = .ok (.aload_n 0, 1) := by decide +kernel
theorem d_X12_bearOf_1 : decode cX12_bearOf 1 = .ok (.getfield 7, 3) := by decide +kernel
theorem d_X12_bearOf_4 : decode cX12_bearOf 4 = .ok (.iload_n 1, 1) := by decide +kernel
theorem d_X12_bearOf_5 : decode cX12_bearOf 5 = .ok (.iaload, 1) := by decide +kernel
theorem d_X12_bearOf_6 : decode cX12_bearOf 6 = .ok (.iconst 3, 1) := by decide +kernel
theorem d_X12_bearOf_7 : decode cX12_bearOf 7 = .ok (.if_icmp .ne 18, 3) := by decide +kernel
theorem d_X12_bearOf_10 : decode cX12_bearOf 10 = .ok (.aload_n 0, 1) := by decide +kernel
theorem d_X12_bearOf_11 : decode cX12_bearOf 11 = .ok (.bipush 41, 2) := by decide +kernel
theorem d_X12_bearOf_13 : decode cX12_bearOf 13 = .ok (.invokevirtual 320, 3) := by decide +kernel
theorem d_X12_bearOf_16 : decode cX12_bearOf 16 = .ok (.aload_n 0, 1) := by decide +kernel
theorem d_X12_bearOf_17 : decode cX12_bearOf 17 = .ok (.iload_n 1, 1) := by decide +kernel
theorem d_X12_bearOf_18 : decode cX12_bearOf 18 = .ok (.iload_n 2, 1) := by decide +kernel
theorem d_X12_bearOf_19 : decode cX12_bearOf 19 = .ok (.iload_n 1, 1) := by decide +kernel
theorem d_X12_bearOf_20 : decode cX12_bearOf 20 = .ok (.iadd, 1) := by decide +kernel
theorem d_X12_bearOf_21 : decode cX12_bearOf 21 = .ok (.invokevirtual 327, 3) := by decide +kernel
theorem d_X12_bearOf_24 : decode cX12_bearOf 24 = .ok (.ireturn, 1) := by decide +kernel
theorem d_X12_bearOf_25 : decode cX12_bearOf 25 = .ok (.aload_n 0, 1) := by decide +kernel
theorem d_X12_bearOf_26 : decode cX12_bearOf 26 = .ok (.getfield 7, 3) := by decide +kernel
theorem d_X12_bearOf_29 : decode cX12_bearOf 29 = .ok (.iload_n 1, 1) := by decide +kernel
theorem d_X12_bearOf_30 : decode cX12_bearOf 30 = .ok (.iaload, 1) := by decide +kernel
theorem d_X12_bearOf_31 : decode cX12_bearOf 31 = .ok (.iconst 1, 1) := by decide +kernel
theorem d_X12_bearOf_32 : decode cX12_bearOf 32 = .ok (.if_icmp .ne 12, 3) := by decide +kernel
theorem d_X12_bearOf_35 : decode cX12_bearOf 35 = .ok (.aload_n 0, 1) := by decide +kernel
theorem d_X12_bearOf_36 : decode cX12_bearOf 36 = .ok (.iload_n 1, 1) := by decide +kernel
theorem d_X12_bearOf_37 : decode cX12_bearOf 37 = .ok (.iload_n 2, 1) := by decide +kernel
theorem d_X12_bearOf_38 : decode cX12_bearOf 38 = .ok (.invokevirtual 327, 3) := by decide +kernel
theorem d_X12_bearOf_41 : decode cX12_bearOf 41 = .ok (.goto 9, 3) := by decide +kernel
theorem d_X12_bearOf_44 : decode cX12_bearOf 44 = .ok (.aload_n 0, 1) := by decide +kernel
theorem d_X12_bearOf_45 : decode cX12_bearOf 45 = .ok (.iload_n 1, 1) := by decide +kernel
theorem d_X12_bearOf_46 : decode cX12_bearOf 46 = .ok (.iload_n 2, 1) := by decide +kernel
theorem d_X12_bearOf_47 : decode cX12_bearOf 47 = .ok (.invokevirtual 324, 3) := by decide +kernel
theorem d_X12_bearOf_50 : decode cX12_bearOf 50 = .ok (.ireturn, 1) := by decide +kernel
theorem d_X12_bar12_0 : decode cX12_bar12 0 = .ok (.aload_n 0, 1) := by decide +kernel
theorem d_X12_bar12_1 : decode cX12_bar12 1 = .ok (.bipush 12, 2) := by decide +kernel
theorem d_X12_bar12_3 : decode cX12_bar12 3 = .ok (.invokevirtual 320, 3) := by decide +kernel
theorem d_X12_bar12_6 : decode cX12_bar12 6 = .ok (.iload_n 2, 1) := by decide +kernel
theorem d_X12_bar12_7 : decode cX12_bar12 7 = .ok (.iload_n 1, 1) := by decide +kernel
theorem d_X12_bar12_8 : decode cX12_bar12 8 = .ok (.isub, 1) := by decide +kernel
theorem d_X12_bar12_9 : decode cX12_bar12 9 = .ok (.ireturn, 1) := by decide +kernel
theorem d_X12_barOf_0 : decode cX12_barOf 0 = .ok (.aload_n 0, 1) := by decide +kernel
theorem d_X12_barOf_1 : decode cX12_barOf 1 = .ok (.getfield 7, 3) := by decide +kernel
theorem d_X12_barOf_4 : decode cX12_barOf 4 = .ok (.iload_n 1, 1) := by decide +kernel
theorem d_X12_barOf_5 : decode cX12_barOf 5 = .ok (.iaload, 1) := by decide +kernel
theorem d_X12_barOf_6 : decode cX12_barOf 6 = .ok (.iconst 3, 1) := by decide +kernel
theorem d_X12_barOf_7 : decode cX12_barOf 7 = .ok (.if_icmp .ne 18, 3) := by decide +kernel
theorem d_X12_barOf_10 : decode cX12_barOf 10 = .ok (.aload_n 0, 1) := by decide +kernel
theorem d_X12_barOf_11 : decode cX12_barOf 11 = .ok (.bipush 40, 2) := by decide +kernel
theorem d_X12_barOf_13 : decode cX12_barOf 13 = .ok (.invokevirtual 320, 3) := by decide +kernel
theorem d_X12_barOf_16 : decode cX12_barOf 16 = .ok (.aload_n 0, 1) := by decide +kernel
theorem d_X12_barOf_17 : decode cX12_barOf 17 = .ok (.iload_n 1, 1) := by decide +kernel
theorem d_X12_barOf_18 : decode cX12_barOf 18 = .ok (.iload_n 2, 1) := by decide +kernel
theorem d_X12_barOf_19 : decode cX12_barOf 19 = .ok (.invokevirtual 330, 3) := by decide +kernel
theorem d_X12_barOf_22 : decode cX12_barOf 22 = .ok (.iconst 3, 1) := by decide +kernel
theorem d_X12_barOf_23 : decode cX12_barOf 23 = .ok (.imul, 1) := by decide +kernel
theorem d_X12_barOf_24 : decode cX12_barOf 24 = .ok (.ireturn, 1) := by decide +kernel
theorem d_X12_barOf_25 : decode cX12_barOf 25 = .ok (.aload_n 0, 1) := by decide +kernel
theorem d_X12_barOf_26 : decode cX12_barOf 26 = .ok (.getfield 7, 3) := by decide +kernel
theorem d_X12_barOf_29 : decode cX12_barOf 29 = .ok (.iload_n 1, 1) := by decide +kernel
theorem d_X12_barOf_30 : decode cX12_barOf 30 = .ok (.iaload, 1) := by decide +kernel
theorem d_X12_barOf_31 : decode cX12_barOf 31 = .ok (.iconst 4, 1) := by decide +kernel
theorem d_X12_barOf_32 : decode cX12_barOf 32 = .ok (.if_icmp .ne 23, 3) := by decide +kernel
theorem d_X12_barOf_35 : decode cX12_barOf 35 = .ok (.aload_n 0, 1) := by decide +kernel
theorem d_X12_barOf_36 : decode cX12_barOf 36 = .ok (.bipush 51, 2) := by decide +kernel
theorem d_X12_barOf_38 : decode cX12_barOf 38 = .ok (.invokevirtual 320, 3) := by decide +kernel
theorem d_X12_barOf_41 : decode cX12_barOf 41 = .ok (.aload_n 0, 1) := by decide +kernel
theorem d_X12_barOf_42 : decode cX12_barOf 42 = .ok (.iload_n 1, 1) := by decide +kernel
theorem d_X12_barOf_43 : decode cX12_barOf 43 = .ok (.iload_n 2, 1) := by decide +kernel
theorem d_X12_barOf_44 : decode cX12_barOf 44 = .ok (.aload_n 0, 1) := by decide +kernel
theorem d_X12_barOf_45 : decode cX12_barOf 45 = .ok (.getfield 13, 3) := by decide +kernel
theorem d_X12_barOf_48 : decode cX12_barOf 48 = .ok (.iload_n 1, 1) := by decide +kernel
theorem d_X12_barOf_49 : decode cX12_barOf 49 = .ok (.iaload, 1) := by decide +kernel
theorem d_X12_barOf_50 : decode cX12_barOf 50 = .ok (.iadd, 1) := by decide +kernel
theorem d_X12_barOf_51 : decode cX12_barOf 51 = .ok (.invokevirtual 330, 3) := by decide +kernel
theorem d_X12_barOf_54 : decode cX12_barOf 54 = .ok (.ireturn, 1) := by decide +kernel
theorem d_X12_barOf_55 : decode cX12_barOf 55 = .ok (.aload_n 0, 1) := by decide +kernel
theorem d_X12_barOf_56 : decode cX12_barOf 56 = .ok (.iload_n 1, 1) := by decide +kernel
theorem d_X12_barOf_57 : decode cX12_barOf 57 = .ok (.iload_n 2, 1) := by decide +kernel
theorem d_X12_barOf_58 : decode cX12_barOf 58 = .ok (.invokevirtual 330, 3) := by decide +kernel
theorem d_X12_barOf_61 : decode cX12_barOf 61 = .ok (.ireturn, 1) := by decide +kernel
theorem d_X12_move11_0 : decode cX12_move11 0 = .ok (.aload_n 0, 1) := by decide +kernel
theorem d_X12_move11_1 : decode cX12_move11 1 = .ok (.bipush 11, 2) := by decide +kernel
theorem d_X12_move11_3 : decode cX12_move11 3 = .ok (.invokevirtual 320, 3) := by decide +kernel
theorem d_X12_move11_6 : decode cX12_move11 6 = .ok (.aload_n 0, 1) := by decide +kernel
theorem d_X12_move11_7 : decode cX12_move11 7 = .ok (.iload_n 1, 1) := by decide +kernel
theorem d_X12_move11_8 : decode cX12_move11 8 = .ok (.iload_n 2, 1) := by decide +kernel
theorem d_X12_move11_9 : decode cX12_move11 9 = .ok (.invokevirtual 333, 3) := by decide +kernel
theorem d_X12_move11_12 : decode cX12_move11 12 = .ok (.iconst 2, 1) := by decide +kernel
theorem d_X12_move11_13 : decode cX12_move11 13 = .ok (.imul, 1) := by decide +kernel
theorem d_X12_move11_14 : decode cX12_move11 14 = .ok (.ireturn, 1) := by decide +kernel
theorem d_X12_moveOf_0 : decode cX12_moveOf 0 = .ok (.aload_n 0, 1) := by decide +kernel
theorem d_X12_moveOf_1 : decode cX12_moveOf 1 = .ok (.getfield 7, 3) := by decide +kernel
theorem d_X12_moveOf_4 : decode cX12_moveOf 4 = .ok (.iload_n 1, 1) := by decide +kernel
theorem d_X12_moveOf_5 : decode cX12_moveOf 5 = .ok (.iaload, 1) := by decide +kernel
theorem d_X12_moveOf_6 : decode cX12_moveOf 6 = .ok (.iconst 2, 1) := by decide +kernel
theorem d_X12_moveOf_7 : decode cX12_moveOf 7 = .ok (.if_icmp .ne 30, 3) := by decide +kernel
theorem d_X12_moveOf_10 : decode cX12_moveOf 10 = .ok (.aload_n 0, 1) := by decide +kernel
theorem d_X12_moveOf_11 : decode cX12_moveOf 11 = .ok (.bipush 30, 2) := by decide +kernel
theorem d_X12_moveOf_13 : decode cX12_moveOf 13 = .ok (.invokevirtual 320, 3) := by decide +kernel
theorem d_X12_moveOf_16 : decode cX12_moveOf 16 = .ok (.aload_n 0, 1) := by decide +kernel
theorem d_X12_moveOf_17 : decode cX12_moveOf 17 = .ok (.iload_n 1, 1) := by decide +kernel
theorem d_X12_moveOf_18 : decode cX12_moveOf 18 = .ok (.iload_n 2, 1) := by decide +kernel
theorem d_X12_moveOf_19 : decode cX12_moveOf 19 = .ok (.invokevirtual 336, 3) := by decide +kernel
theorem d_X12_moveOf_22 : decode cX12_moveOf 22 = .ok (.istore_n 3, 1) := by decide +kernel
theorem d_X12_moveOf_23 : decode cX12_moveOf 23 = .ok (.iload_n 3, 1) := by decide +kernel
theorem d_X12_moveOf_24 : decode cX12_moveOf 24 = .ok (.aload_n 0, 1) := by decide +kernel
theorem d_X12_moveOf_25 : decode cX12_moveOf 25 = .ok (.iload_n 1, 1) := by decide +kernel
theorem d_X12_moveOf_26 : decode cX12_moveOf 26 = .ok (.aload_n 0, 1) := by decide +kernel
theorem d_X12_moveOf_27 : decode cX12_moveOf 27 = .ok (.getfield 13, 3) := by decide +kernel
theorem d_X12_moveOf_30 : decode cX12_moveOf 30 = .ok (.iload_n 1, 1) := by decide +kernel
theorem d_X12_moveOf_31 : decode cX12_moveOf 31 = .ok (.iaload, 1) := by decide +kernel
theorem d_X12_moveOf_32 : decode cX12_moveOf 32 = .ok (.invokevirtual 339, 3) := by decide +kernel
theorem d_X12_moveOf_35 : decode cX12_moveOf 35 = .ok (.iadd, 1) := by decide +kernel
theorem d_X12_moveOf_36 : decode cX12_moveOf 36 = .ok (.ireturn, 1) := by decide +kernel
theorem d_X12_moveOf_37 : decode cX12_moveOf 37 = .ok (.aload_n 0, 1) := by decide +kernel
theorem d_X12_moveOf_38 : decode cX12_moveOf 38 = .ok (.getfield 7, 3) := by decide +kernel
theorem d_X12_moveOf_41 : decode cX12_moveOf 41 = .ok (.iload_n 1, 1) := by decide +kernel
theorem d_X12_moveOf_42 : decode cX12_moveOf 42 = .ok (.iaload, 1) := by decide +kernel
theorem d_X12_moveOf_43 : decode cX12_moveOf 43 = .ok (.iconst 4, 1) := by decide +kernel
theorem d_X12_moveOf_44 : decode cX12_moveOf 44 = .ok (.if_icmp .ne 23, 3) := by decide +kernel
theorem d_X12_moveOf_47 : decode cX12_moveOf 47 = .ok (.aload_n 0, 1) := by decide +kernel
theorem d_X12_moveOf_48 : decode cX12_moveOf 48 = .ok (.bipush 50, 2) := by decide +kernel
theorem d_X12_moveOf_50 : decode cX12_moveOf 50 = .ok (.invokevirtual 320, 3) := by decide +kernel
theorem d_X12_moveOf_53 : decode cX12_moveOf 53 = .ok (.aload_n 0, 1) := by decide +kernel
theorem d_X12_moveOf_54 : decode cX12_moveOf 54 = .ok (.iload_n 1, 1) := by decide +kernel
theorem d_X12_moveOf_55 : decode cX12_moveOf 55 = .ok (.iload_n 2, 1) := by decide +kernel
theorem d_X12_moveOf_56 : decode cX12_moveOf 56 = .ok (.invokevirtual 336, 3) := by decide +kernel
theorem d_X12_moveOf_59 : decode cX12_moveOf 59 = .ok (.aload_n 0, 1) := by decide +kernel
theorem d_X12_moveOf_60 : decode cX12_moveOf 60 = .ok (.getfield 16, 3) := by decide +kernel
theorem d_X12_moveOf_63 : decode cX12_moveOf 63 = .ok (.iload_n 1, 1) := by decide +kernel
theorem d_X12_moveOf_64 : decode cX12_moveOf 64 = .ok (.iaload, 1) := by decide +kernel
theorem d_X12_moveOf_65 : decode cX12_moveOf 65 = .ok (.ixor, 1) := by decide +kernel
theorem d_X12_moveOf_66 : decode cX12_moveOf 66 = .ok (.ireturn, 1) := by decide +kernel
theorem d_X12_moveOf_67 : decode cX12_moveOf 67 = .ok (.aload_n 0, 1) := by decide +kernel
theorem d_X12_moveOf_68 : decode cX12_moveOf 68 = .ok (.iload_n 1, 1) := by decide +kernel
theorem d_X12_moveOf_69 : decode cX12_moveOf 69 = .ok (.iload_n 2, 1) := by decide +kernel
theorem d_X12_moveOf_70 : decode cX12_moveOf 70 = .ok (.invokevirtual 336, 3) := by decide +kernel
theorem d_X12_moveOf_73 : decode cX12_moveOf 73 = .ok (.ireturn, 1) := by decide +kernel
theorem d_X12_tell13_0 : decode cX12_tell13 0 = .ok (.aload_n 0, 1) := by decide +kernel
theorem d_X12_tell13_1 : decode cX12_tell13 1 = .ok (.bipush 13, 2) := by decide +kernel
theorem d_X12_tell13_3 : decode cX12_tell13 3 = .ok (.invokevirtual 320, 3) := by decide +kernel
theorem d_X12_tell13_6 : decode cX12_tell13 6 = .ok (.aload_n 0, 1) := by decide +kernel
theorem d_X12_tell13_7 : decode cX12_tell13 7 = .ok (.iload_n 1, 1) := by decide +kernel
theorem d_X12_tell13_8 : decode cX12_tell13 8 = .ok (.iload_n 2, 1) := by decide +kernel
theorem d_X12_tell13_9 : decode cX12_tell13 9 = .ok (.invokevirtual 342, 3) := by decide +kernel
theorem d_X12_tell13_12 : decode cX12_tell13 12 = .ok (.istore_n 3, 1) := by decide +kernel
theorem d_X12_tell13_13 : decode cX12_tell13 13 = .ok (.iload_n 3, 1) := by decide +kernel
theorem d_X12_tell13_14 : decode cX12_tell13 14 = .ok (.aload_n 0, 1) := by decide +kernel
theorem d_X12_tell13_15 : decode cX12_tell13 15 = .ok (.iload_n 1, 1) := by decide +kernel
theorem d_X12_tell13_16 : decode cX12_tell13 16 = .ok (.iload_n 2, 1) := by decide +kernel
theorem d_X12_tell13_17 : decode cX12_tell13 17 = .ok (.invokevirtual 339, 3) := by decide +kernel
theorem d_X12_tell13_20 : decode cX12_tell13 20 = .ok (.ixor, 1) := by decide +kernel
theorem d_X12_tell13_21 : decode cX12_tell13 21 = .ok (.ireturn, 1) := by decide +kernel
theorem d_X12_tellOf_0 : decode cX12_tellOf 0 = .ok (.aload_n 0, 1) := by decide +kernel
theorem d_X12_tellOf_1 : decode cX12_tellOf 1 = .ok (.iload_n 1, 1) := by decide +kernel
theorem d_X12_tellOf_2 : decode cX12_tellOf 2 = .ok (.invokevirtual 205, 3) := by decide +kernel
theorem d_X12_tellOf_5 : decode cX12_tellOf 5 = .ok (.ifCond .eq 18, 3) := by decide +kernel
theorem d_X12_tellOf_8 : decode cX12_tellOf 8 = .ok (.aload_n 0, 1) := by decide +kernel
theorem d_X12_tellOf_9 : decode cX12_tellOf 9 = .ok (.bipush 21, 2) := by decide +kernel
theorem d_X12_tellOf_11 : decode cX12_tellOf 11 = .ok (.invokevirtual 320, 3) := by decide +kernel
theorem d_X12_tellOf_14 : decode cX12_tellOf 14 = .ok (.aload_n 0, 1) := by decide +kernel
theorem d_X12_tellOf_15 : decode cX12_tellOf 15 = .ok (.iload_n 1, 1) := by decide +kernel
theorem d_X12_tellOf_16 : decode cX12_tellOf 16 = .ok (.iload_n 2, 1) := by decide +kernel
theorem d_X12_tellOf_17 : decode cX12_tellOf 17 = .ok (.iconst 1, 1) := by decide +kernel
theorem d_X12_tellOf_18 : decode cX12_tellOf 18 = .ok (.iadd, 1) := by decide +kernel
theorem d_X12_tellOf_19 : decode cX12_tellOf 19 = .ok (.invokevirtual 345, 3) := by decide +kernel
theorem d_X12_tellOf_22 : decode cX12_tellOf 22 = .ok (.ireturn, 1) := by decide +kernel
theorem d_X12_tellOf_23 : decode cX12_tellOf 23 = .ok (.aload_n 0, 1) := by decide +kernel
theorem d_X12_tellOf_24 : decode cX12_tellOf 24 = .ok (.getfield 7, 3) := by decide +kernel
theorem d_X12_tellOf_27 : decode cX12_tellOf 27 = .ok (.iload_n 1, 1) := by decide +kernel
theorem d_X12_tellOf_28 : decode cX12_tellOf 28 = .ok (.iaload, 1) := by decide +kernel
theorem d_X12_tellOf_29 : decode cX12_tellOf 29 = .ok (.iconst 5, 1) := by decide +kernel
theorem d_X12_tellOf_30 : decode cX12_tellOf 30 = .ok (.if_icmp .ne 25, 3) := by decide +kernel
theorem d_X12_tellOf_33 : decode cX12_tellOf 33 = .ok (.aload_n 0, 1) := by decide +kernel
theorem d_X12_tellOf_34 : decode cX12_tellOf 34 = .ok (.bipush 60, 2) := by decide +kernel
theorem d_X12_tellOf_36 : decode cX12_tellOf 36 = .ok (.invokevirtual 320, 3) := by decide +kernel
theorem d_X12_tellOf_39 : decode cX12_tellOf 39 = .ok (.aload_n 0, 1) := by decide +kernel
theorem d_X12_tellOf_40 : decode cX12_tellOf 40 = .ok (.iload_n 1, 1) := by decide +kernel
theorem d_X12_tellOf_41 : decode cX12_tellOf 41 = .ok (.iload_n 2, 1) := by decide +kernel
theorem d_X12_tellOf_42 : decode cX12_tellOf 42 = .ok (.invokevirtual 339, 3) := by decide +kernel
theorem d_X12_tellOf_45 : decode cX12_tellOf 45 = .ok (.istore_n 3, 1) := by decide +kernel
theorem d_X12_tellOf_46 : decode cX12_tellOf 46 = .ok (.iload_n 3, 1) := by decide +kernel
theorem d_X12_tellOf_47 : decode cX12_tellOf 47 = .ok (.aload_n 0, 1) := by decide +kernel
theorem d_X12_tellOf_48 : decode cX12_tellOf 48 = .ok (.iload_n 1, 1) := by decide +kernel
theorem d_X12_tellOf_49 : decode cX12_tellOf 49 = .ok (.iload_n 2, 1) := by decide +kernel
theorem d_X12_tellOf_50 : decode cX12_tellOf 50 = .ok (.invokevirtual 345, 3) := by decide +kernel
theorem d_X12_tellOf_53 : decode cX12_tellOf 53 = .ok (.isub, 1) := by decide +kernel
theorem d_X12_tellOf_54 : decode cX12_tellOf 54 = .ok (.ireturn, 1) := by decide +kernel
theorem d_X12_tellOf_55 : decode cX12_tellOf 55 = .ok (.aload_n 0, 1) := by decide +kernel
theorem d_X12_tellOf_56 : decode cX12_tellOf 56 = .ok (.iload_n 1, 1) := by decide +kernel
theorem d_X12_tellOf_57 : decode cX12_tellOf 57 = .ok (.iload_n 2, 1) := by decide +kernel
theorem d_X12_tellOf_58 : decode cX12_tellOf 58 = .ok (.invokevirtual 345, 3) := by decide +kernel
theorem d_X12_tellOf_61 : decode cX12_tellOf 61 = .ok (.ireturn, 1) := by decide +kernel
theorem d_X12_act_0 : decode cX12_act 0 = .ok (.aload_n 0, 1) := by decide +kernel
theorem d_X12_act_1 : decode cX12_act 1 = .ok (.iload_n 1, 1) := by decide +kernel
theorem d_X12_act_2 : decode cX12_act 2 = .ok (.invokevirtual 202, 3) := by decide +kernel
theorem d_X12_act_5 : decode cX12_act 5 = .ok (.ifCond .eq 12, 3) := by decide +kernel
theorem d_X12_act_8 : decode cX12_act 8 = .ok (.iload_n 2, 1) := by decide +kernel
theorem d_X12_act_9 : decode cX12_act 9 = .ok (.iconst 0, 1) := by decide +kernel
theorem d_X12_act_10 : decode cX12_act 10 = .ok (.iconst 3, 1) := by decide +kernel
theorem d_X12_act_11 : decode cX12_act 11 = .ok (.invokestatic 174, 3) := by decide +kernel
theorem d_X12_act_14 : decode cX12_act 14 = .ok (.ifCond .ne 9, 3) := by decide +kernel
theorem d_X12_act_17 : decode cX12_act 17 = .ok (.aload_n 0, 1) := by decide +kernel
theorem d_X12_act_18 : decode cX12_act 18 = .ok (.iconst 1, 1) := by decide +kernel
theorem d_X12_act_19 : decode cX12_act 19 = .ok (.invokevirtual 187, 3) := by decide +kernel
theorem d_X12_act_22 : decode cX12_act 22 = .ok (.ireturn, 1) := by decide +kernel
theorem d_X12_act_23 : decode cX12_act 23 = .ok (.aload_n 0, 1) := by decide +kernel
theorem d_X12_act_24 : decode cX12_act 24 = .ok (.iconst 0, 1) := by decide +kernel
theorem d_X12_act_25 : decode cX12_act 25 = .ok (.putfield 317, 3) := by decide +kernel
theorem d_X12_act_28 : decode cX12_act 28 = .ok (.aload_n 0, 1) := by decide +kernel
theorem d_X12_act_29 : decode cX12_act 29 = .ok (.iconst 0, 1) := by decide +kernel
theorem d_X12_act_30 : decode cX12_act 30 = .ok (.putfield 167, 3) := by decide +kernel
theorem d_X12_act_33 : decode cX12_act 33 = .ok (.iload_n 2, 1) := by decide +kernel
theorem d_X12_act_34 : decode cX12_act 34 = .ok (.ifCond .ne 12, 3) := by decide +kernel
theorem d_X12_act_37 : decode cX12_act 37 = .ok (.aload_n 0, 1) := by decide +kernel
theorem d_X12_act_38 : decode cX12_act 38 = .ok (.iload_n 1, 1) := by decide +kernel
theorem d_X12_act_39 : decode cX12_act 39 = .ok (.iload_n 3, 1) := by decide +kernel
theorem d_X12_act_40 : decode cX12_act 40 = .ok (.invokevirtual 333, 3) := by decide +kernel
theorem d_X12_act_43 : decode cX12_act 43 = .ok (.goto 37, 3) := by decide +kernel
theorem d_X12_act_46 : decode cX12_act 46 = .ok (.iload_n 2, 1) := by decide +kernel
theorem d_X12_act_47 : decode cX12_act 47 = .ok (.iconst 1, 1) := by decide +kernel
theorem d_X12_act_48 : decode cX12_act 48 = .ok (.if_icmp .ne 12, 3) := by decide +kernel
theorem d_X12_act_51 : decode cX12_act 51 = .ok (.aload_n 0, 1) := by decide +kernel
theorem d_X12_act_52 : decode cX12_act 52 = .ok (.iload_n 1, 1) := by decide +kernel
theorem d_X12_act_53 : decode cX12_act 53 = .ok (.iload_n 3, 1) := by decide +kernel
theorem d_X12_act_54 : decode cX12_act 54 = .ok (.invokevirtual 342, 3) := by decide +kernel
theorem d_X12_act_57 : decode cX12_act 57 = .ok (.goto 23, 3) := by decide +kernel
theorem d_X12_act_60 : decode cX12_act 60 = .ok (.iload_n 2, 1) := by decide +kernel
theorem d_X12_act_61 : decode cX12_act 61 = .ok (.iconst 2, 1) := by decide +kernel
theorem d_X12_act_62 : decode cX12_act 62 = .ok (.if_icmp .ne 12, 3) := by decide +kernel
theorem d_X12_act_65 : decode cX12_act 65 = .ok (.aload_n 0, 1) := by decide +kernel
theorem d_X12_act_66 : decode cX12_act 66 = .ok (.iload_n 1, 1) := by decide +kernel
theorem d_X12_act_67 : decode cX12_act 67 = .ok (.iload_n 3, 1) := by decide +kernel
theorem d_X12_act_68 : decode cX12_act 68 = .ok (.invokevirtual 339, 3) := by decide +kernel
theorem d_X12_act_71 : decode cX12_act 71 = .ok (.goto 9, 3) := by decide +kernel
theorem d_X12_act_74 : decode cX12_act 74 = .ok (.aload_n 0, 1) := by decide +kernel
theorem d_X12_act_75 : decode cX12_act 75 = .ok (.iload_n 1, 1) := by decide +kernel
theorem d_X12_act_76 : decode cX12_act 76 = .ok (.iload_n 3, 1) := by decide +kernel
theorem d_X12_act_77 : decode cX12_act 77 = .ok (.invokevirtual 348, 3) := by decide +kernel
theorem d_X12_act_80 : decode cX12_act 80 = .ok (.ireturn, 1) := by decide +kernel
theorem d_X12_trace_0 : decode cX12_trace 0 = .ok (.iload_n 1, 1) := by decide +kernel
theorem d_X12_trace_1 : decode cX12_trace 1 = .ok (.iconst 0, 1) := by decide +kernel
theorem d_X12_trace_2 : decode cX12_trace 2 = .ok (.aload_n 0, 1) := by decide +kernel
theorem d_X12_trace_3 : decode cX12_trace 3 = .ok (.getfield 317, 3) := by decide +kernel
theorem d_X12_trace_6 : decode cX12_trace 6 = .ok (.bipush 50, 2) := by decide +kernel
theorem d_X12_trace_8 : decode cX12_trace 8 = .ok (.if_icmp .ge 10, 3) := by decide +kernel
theorem d_X12_trace_11 : decode cX12_trace 11 = .ok (.aload_n 0, 1) := by decide +kernel
theorem d_X12_trace_12 : decode cX12_trace 12 = .ok (.getfield 317, 3) := by decide +kernel
theorem d_X12_trace_15 : decode cX12_trace 15 = .ok (.goto 5, 3) := by decide +kernel
theorem d_X12_trace_18 : decode cX12_trace 18 = .ok (.bipush 50, 2) := by decide +kernel
theorem d_X12_trace_20 : decode cX12_trace 20 = .ok (.iconst 1, 1) := by decide +kernel
theorem d_X12_trace_21 : decode cX12_trace 21 = .ok (.isub, 1) := by decide +kernel
theorem d_X12_trace_22 : decode cX12_trace 22 = .ok (.invokestatic 174, 3) := by decide +kernel
theorem d_X12_trace_25 : decode cX12_trace 25 = .ok (.ifCond .eq 12, 3) := by decide +kernel
theorem d_X12_trace_28 : decode cX12_trace 28 = .ok (.aload_n 0, 1) := by decide +kernel
theorem d_X12_trace_29 : decode cX12_trace 29 = .ok (.getfield 152, 3) := by decide +kernel
theorem d_X12_trace_32 : decode cX12_trace 32 = .ok (.iload_n 1, 1) := by decide +kernel
theorem d_X12_trace_33 : decode cX12_trace 33 = .ok (.iaload, 1) := by decide +kernel
theorem d_X12_trace_34 : decode cX12_trace 34 = .ok (.goto 4, 3) := by decide +kernel
theorem d_X12_trace_37 : decode cX12_trace 37 = .ok (.iconst (-1), 1) := by decide +kernel
theorem d_X12_trace_38 : decode cX12_trace 38 = .ok (.ireturn, 1) := by decide +kernel
theorem d_X12_sheet_0 : decode cX12_sheet 0 = .ok (.iload_n 1, 1) := by decide +kernel
theorem d_X12_sheet_1 : decode cX12_sheet 1 = .ok (.iconst 0, 1) := by decide +kernel
theorem d_X12_sheet_2 : decode cX12_sheet 2 = .ok (.iconst 3, 1) := by decide +kernel
theorem d_X12_sheet_3 : decode cX12_sheet 3 = .ok (.invokestatic 174, 3) := by decide +kernel
theorem d_X12_sheet_6 : decode cX12_sheet 6 = .ok (.ifCond .eq 27, 3) := by decide +kernel
theorem d_X12_sheet_9 : decode cX12_sheet 9 = .ok (.iload_n 2, 1) := by decide +kernel
theorem d_X12_sheet_10 : decode cX12_sheet 10 = .ok (.iconst (-1), 1) := by decide +kernel
theorem d_X12_sheet_11 : decode cX12_sheet 11 = .ok (.iconst 2, 1) := by decide +kernel
theorem d_X12_sheet_12 : decode cX12_sheet 12 = .ok (.invokestatic 174, 3) := by decide +kernel
theorem d_X12_sheet_15 : decode cX12_sheet 15 = .ok (.ifCond .eq 18, 3) := by decide +kernel
theorem d_X12_sheet_18 : decode cX12_sheet 18 = .ok (.iload_n 2, 1) := by decide +kernel
theorem d_X12_sheet_19 : decode cX12_sheet 19 = .ok (.iconst (-1), 1) := by decide +kernel
theorem d_X12_sheet_20 : decode cX12_sheet 20 = .ok (.if_icmp .eq 19, 3) := by decide +kernel
theorem d_X12_sheet_23 : decode cX12_sheet 23 = .ok (.iload_n 3, 1) := by decide +kernel
theorem d_X12_sheet_24 : decode cX12_sheet 24 = .ok (.iconst 0, 1) := by decide +kernel
theorem d_X12_sheet_25 : decode cX12_sheet 25 = .ok (.bipush 40, 2) := by decide +kernel
theorem d_X12_sheet_27 : decode cX12_sheet 27 = .ok (.invokestatic 174, 3) := by decide +kernel
theorem d_X12_sheet_30 : decode cX12_sheet 30 = .ok (.ifCond .ne 9, 3) := by decide +kernel
theorem d_X12_sheet_33 : decode cX12_sheet 33 = .ok (.aload_n 0, 1) := by decide +kernel
theorem d_X12_sheet_34 : decode cX12_sheet 34 = .ok (.iconst 1, 1) := by decide +kernel
theorem d_X12_sheet_35 : decode cX12_sheet 35 = .ok (.invokevirtual 187, 3) := by decide +kernel
theorem d_X12_sheet_38 : decode cX12_sheet 38 = .ok (.ireturn, 1) := by decide +kernel
theorem d_X12_sheet_39 : decode cX12_sheet 39 = .ok (.aload_n 0, 1) := by decide +kernel
theorem d_X12_sheet_40 : decode cX12_sheet 40 = .ok (.getfield 155, 3) := by decide +kernel
theorem d_X12_sheet_43 : decode cX12_sheet 43 = .ok (.iload_n 1, 1) := by decide +kernel
theorem d_X12_sheet_44 : decode cX12_sheet 44 = .ok (.iload_n 2, 1) := by decide +kernel
theorem d_X12_sheet_45 : decode cX12_sheet 45 = .ok (.iastore, 1) := by decide +kernel
theorem d_X12_sheet_46 : decode cX12_sheet 46 = .ok (.aload_n 0, 1) := by decide +kernel
theorem d_X12_sheet_47 : decode cX12_sheet 47 = .ok (.getfield 158, 3) := by decide +kernel
theorem d_X12_sheet_50 : decode cX12_sheet 50 = .ok (.iload_n 1, 1) := by decide +kernel
theorem d_X12_sheet_51 : decode cX12_sheet 51 = .ok (.iload_n 2, 1) := by decide +kernel
theorem d_X12_sheet_52 : decode cX12_sheet 52 = .ok (.iconst (-1), 1) := by decide +kernel
theorem d_X12_sheet_53 : decode cX12_sheet 53 = .ok (.if_icmp .ne 7, 3) := by decide +kernel
theorem d_X12_sheet_56 : decode cX12_sheet 56 = .ok (.iconst 0, 1) := by decide +kernel
theorem d_X12_sheet_57 : decode cX12_sheet 57 = .ok (.goto 4, 3) := by decide +kernel
theorem d_X12_sheet_60 : decode cX12_sheet 60 = .ok (.iload_n 3, 1) := by decide +kernel
theorem d_X12_sheet_61 : decode cX12_sheet 61 = .ok (.iastore, 1) := by decide +kernel
theorem d_X12_sheet_62 : decode cX12_sheet 62 = .ok (.iconst 0, 1) := by decide +kernel
theorem d_X12_sheet_63 : decode cX12_sheet 63 = .ok (.istore 4, 2) := by decide +kernel
theorem d_X12_sheet_65 : decode cX12_sheet 65 = .ok (.iload 4, 2) := by decide +kernel
theorem d_X12_sheet_67 : decode cX12_sheet 67 = .ok (.bipush 40, 2) := by decide +kernel
theorem d_X12_sheet_69 : decode cX12_sheet 69 = .ok (.if_icmp .ge 35, 3) := by decide +kernel
theorem d_X12_sheet_72 : decode cX12_sheet 72 = .ok (.aload_n 0, 1) := by decide +kernel
theorem d_X12_sheet_73 : decode cX12_sheet 73 = .ok (.getfield 161, 3) := by decide +kernel
theorem d_X12_sheet_76 : decode cX12_sheet 76 = .ok (.bipush 40, 2) := by decide +kernel
theorem d_X12_sheet_78 : decode cX12_sheet 78 = .ok (.iload_n 1, 1) := by decide +kernel
theorem d_X12_sheet_79 : decode cX12_sheet 79 = .ok (.imul, 1) := by decide +kernel
theorem d_X12_sheet_80 : decode cX12_sheet 80 = .ok (.iload 4, 2) := by decide +kernel
theorem d_X12_sheet_82 : decode cX12_sheet 82 = .ok (.iadd, 1) := by decide +kernel
theorem d_X12_sheet_83 : decode cX12_sheet 83 = .ok (.iconst 0, 1) := by decide +kernel
theorem d_X12_sheet_84 : decode cX12_sheet 84 = .ok (.iastore, 1) := by decide +kernel
theorem d_X12_sheet_85 : decode cX12_sheet 85 = .ok (.aload_n 0, 1) := by decide +kernel
theorem d_X12_sheet_86 : decode cX12_sheet 86 = .ok (.getfield 164, 3) := by decide +kernel
theorem d_X12_sheet_89 : decode cX12_sheet 89 = .ok (.bipush 40, 2) := by decide +kernel
theorem d_X12_sheet_91 : decode cX12_sheet 91 = .ok (.iload_n 1, 1) := by decide +kernel
theorem d_X12_sheet_92 : decode cX12_sheet 92 = .ok (.imul, 1) := by decide +kernel
theorem d_X12_sheet_93 : decode cX12_sheet 93 = .ok (.iload 4, 2) := by decide +kernel
theorem d_X12_sheet_95 : decode cX12_sheet 95 = .ok (.iadd, 1) := by decide +kernel
theorem d_X12_sheet_96 : decode cX12_sheet 96 = .ok (.iconst 0, 1) := by decide +kernel
theorem d_X12_sheet_97 : decode cX12_sheet 97 = .ok (.bastore, 1) := by decide +kernel
theorem d_X12_sheet_98 : decode cX12_sheet 98 = .ok (.iinc 4 1, 3) := by decide +kernel
theorem d_X12_sheet_101 : decode cX12_sheet 101 = .ok (.goto (-36), 3) := by decide +kernel
theorem d_X12_sheet_104 : decode cX12_sheet 104 = .ok (.aload_n 0, 1) := by decide +kernel
theorem d_X12_sheet_105 : decode cX12_sheet 105 = .ok (.iconst 1, 1) := by decide +kernel
theorem d_X12_sheet_106 : decode cX12_sheet 106 = .ok (.invokevirtual 191, 3) := by decide +kernel
theorem d_X12_sheet_109 : decode cX12_sheet 109 = .ok (.ireturn, 1) := by decide +kernel
theorem d_X12_cell_0 : decode cX12_cell 0 = .ok (.iload_n 1, 1) := by decide +kernel
theorem d_X12_cell_1 : decode cX12_cell 1 = .ok (.iconst 0, 1) := by decide +kernel
theorem d_X12_cell_2 : decode cX12_cell 2 = .ok (.iconst 3, 1) := by decide +kernel
theorem d_X12_cell_3 : decode cX12_cell 3 = .ok (.invokestatic 174, 3) := by decide +kernel
theorem d_X12_cell_6 : decode cX12_cell 6 = .ok (.ifCond .eq 16, 3) := by decide +kernel
theorem d_X12_cell_9 : decode cX12_cell 9 = .ok (.iload_n 3, 1) := by decide +kernel
theorem d_X12_cell_10 : decode cX12_cell 10 = .ok (.sipush (-1000), 3) := by decide +kernel
theorem d_X12_cell_13 : decode cX12_cell 13 = .ok (.sipush 1000, 3) := by decide +kernel
theorem d_X12_cell_16 : decode cX12_cell 16 = .ok (.invokestatic 174, 3) := by decide +kernel
theorem d_X12_cell_19 : decode cX12_cell 19 = .ok (.ifCond .ne 9, 3) := by decide +kernel
theorem d_X12_cell_22 : decode cX12_cell 22 = .ok (.aload_n 0, 1) := by decide +kernel
theorem d_X12_cell_23 : decode cX12_cell 23 = .ok (.iconst 1, 1) := by decide +kernel
theorem d_X12_cell_24 : decode cX12_cell 24 = .ok (.invokevirtual 187, 3) := by decide +kernel
theorem d_X12_cell_27 : decode cX12_cell 27 = .ok (.ireturn, 1) := by decide +kernel
theorem d_X12_cell_28 : decode cX12_cell 28 = .ok (.aload_n 0, 1) := by decide +kernel
theorem d_X12_cell_29 : decode cX12_cell 29 = .ok (.getfield 155, 3) := by decide +kernel
theorem d_X12_cell_32 : decode cX12_cell 32 = .ok (.iload_n 1, 1) := by decide +kernel
theorem d_X12_cell_33 : decode cX12_cell 33 = .ok (.iaload, 1) := by decide +kernel
theorem d_X12_cell_34 : decode cX12_cell 34 = .ok (.iconst (-1), 1) := by decide +kernel
theorem d_X12_cell_35 : decode cX12_cell 35 = .ok (.if_icmp .ne 10, 3) := by decide +kernel
theorem d_X12_cell_38 : decode cX12_cell 38 = .ok (.aload_n 0, 1) := by decide +kernel
theorem d_X12_cell_39 : decode cX12_cell 39 = .ok (.bipush 10, 2) := by decide +kernel
theorem d_X12_cell_41 : decode cX12_cell 41 = .ok (.invokevirtual 187, 3) := by decide +kernel
theorem d_X12_cell_44 : decode cX12_cell 44 = .ok (.ireturn, 1) := by decide +kernel
theorem d_X12_cell_45 : decode cX12_cell 45 = .ok (.iload_n 2, 1) := by decide +kernel
theorem d_X12_cell_46 : decode cX12_cell 46 = .ok (.iconst 0, 1) := by decide +kernel
theorem d_X12_cell_47 : decode cX12_cell 47 = .ok (.aload_n 0, 1) := by decide +kernel
theorem d_X12_cell_48 : decode cX12_cell 48 = .ok (.getfield 158, 3) := by decide +kernel
theorem d_X12_cell_51 : decode cX12_cell 51 = .ok (.iload_n 1, 1) := by decide +kernel
theorem d_X12_cell_52 : decode cX12_cell 52 = .ok (.iaload, 1) := by decide +kernel
theorem d_X12_cell_53 : decode cX12_cell 53 = .ok (.iconst 1, 1) := by decide +kernel
theorem d_X12_cell_54 : decode cX12_cell 54 = .ok (.isub, 1) := by decide +kernel
theorem d_X12_cell_55 : decode cX12_cell 55 = .ok (.invokestatic 174, 3) := by decide +kernel
theorem d_X12_cell_58 : decode cX12_cell 58 = .ok (.ifCond .ne 10, 3) := by decide +kernel
theorem d_X12_cell_61 : decode cX12_cell 61 = .ok (.aload_n 0, 1) := by decide +kernel
theorem d_X12_cell_62 : decode cX12_cell 62 = .ok (.bipush 12, 2) := by decide +kernel
theorem d_X12_cell_64 : decode cX12_cell 64 = .ok (.invokevirtual 187, 3) := by decide +kernel
theorem d_X12_cell_67 : decode cX12_cell 67 = .ok (.ireturn, 1) := by decide +kernel
theorem d_X12_cell_68 : decode cX12_cell 68 = .ok (.aload_n 0, 1) := by decide +kernel
theorem d_X12_cell_69 : decode cX12_cell 69 = .ok (.getfield 161, 3) := by decide +kernel
theorem d_X12_cell_72 : decode cX12_cell 72 = .ok (.bipush 40, 2) := by decide +kernel
theorem d_X12_cell_74 : decode cX12_cell 74 = .ok (.iload_n 1, 1) := by decide +kernel
theorem d_X12_cell_75 : decode cX12_cell 75 = .ok (.imul, 1) := by decide +kernel
theorem d_X12_cell_76 : decode cX12_cell 76 = .ok (.iload_n 2, 1) := by decide +kernel
theorem d_X12_cell_77 : decode cX12_cell 77 = .ok (.iadd, 1) := by decide +kernel
theorem d_X12_cell_78 : decode cX12_cell 78 = .ok (.aload_n 0, 1) := by decide +kernel
theorem d_X12_cell_79 : decode cX12_cell 79 = .ok (.getfield 155, 3) := by decide +kernel
theorem d_X12_cell_82 : decode cX12_cell 82 = .ok (.iload_n 1, 1) := by decide +kernel
theorem d_X12_cell_83 : decode cX12_cell 83 = .ok (.iaload, 1) := by decide +kernel
theorem d_X12_cell_84 : decode cX12_cell 84 = .ok (.ifCond .ne 8, 3) := by decide +kernel
theorem d_X12_cell_87 : decode cX12_cell 87 = .ok (.iload_n 3, 1) := by decide +kernel
theorem d_X12_cell_88 : decode cX12_cell 88 = .ok (.i2b, 1) := by decide +kernel
theorem d_X12_cell_89 : decode cX12_cell 89 = .ok (.goto 4, 3) := by decide +kernel
theorem d_X12_cell_92 : decode cX12_cell 92 = .ok (.iload_n 3, 1) := by decide +kernel
theorem d_X12_cell_93 : decode cX12_cell 93 = .ok (.iastore, 1) := by decide +kernel
theorem d_X12_cell_94 : decode cX12_cell 94 = .ok (.aload_n 0, 1) := by decide +kernel
theorem d_X12_cell_95 : decode cX12_cell 95 = .ok (.getfield 164, 3) := by decide +kernel
theorem d_X12_cell_98 : decode cX12_cell 98 = .ok (.bipush 40, 2) := by decide +kernel
theorem d_X12_cell_100 : decode cX12_cell 100 = .ok (.iload_n 1, 1) := by decide +kernel
theorem d_X12_cell_101 : decode cX12_cell 101 = .ok (.imul, 1) := by decide +kernel
theorem d_X12_cell_102 : decode cX12_cell 102 = .ok (.iload_n 2, 1) := by decide +kernel
theorem d_X12_cell_103 : decode cX12_cell 103 = .ok (.iadd, 1) := by decide +kernel
theorem d_X12_cell_104 : decode cX12_cell 104 = .ok (.iconst 0, 1) := by decide +kernel
theorem d_X12_cell_105 : decode cX12_cell 105 = .ok (.bastore, 1) := by decide +kernel
theorem d_X12_cell_106 : decode cX12_cell 106 = .ok (.aload_n 0, 1) := by decide +kernel
theorem d_X12_cell_107 : decode cX12_cell 107 = .ok (.iconst 1, 1) := by decide +kernel
theorem d_X12_cell_108 : decode cX12_cell 108 = .ok (.invokevirtual 191, 3) := by decide +kernel
theorem d_X12_cell_111 : decode cX12_cell 111 = .ok (.ireturn, 1) := by decide +kernel
theorem d_X12_none_0 : decode cX12_none 0 = .ok (.iload_n 1, 1) := by decide +kernel
theorem d_X12_none_1 : decode cX12_none 1 = .ok (.iconst 0, 1) := by decide +kernel
theorem d_X12_none_2 : decode cX12_none 2 = .ok (.iconst 3, 1) := by decide +kernel
theorem d_X12_none_3 : decode cX12_none 3 = .ok (.invokestatic 174, 3) := by decide +kernel
theorem d_X12_none_6 : decode cX12_none 6 = .ok (.ifCond .ne 9, 3) := by decide +kernel
theorem d_X12_none_9 : decode cX12_none 9 = .ok (.aload_n 0, 1) := by decide +kernel
theorem d_X12_none_10 : decode cX12_none 10 = .ok (.iconst 1, 1) := by decide +kernel
theorem d_X12_none_11 : decode cX12_none 11 = .ok (.invokevirtual 187, 3) := by decide +kernel
theorem d_X12_none_14 : decode cX12_none 14 = .ok (.ireturn, 1) := by decide +kernel
theorem d_X12_none_15 : decode cX12_none 15 = .ok (.aload_n 0, 1) := by decide +kernel
theorem d_X12_none_16 : decode cX12_none 16 = .ok (.getfield 155, 3) := by decide +kernel
theorem d_X12_none_19 : decode cX12_none 19 = .ok (.iload_n 1, 1) := by decide +kernel
theorem d_X12_none_20 : decode cX12_none 20 = .ok (.iaload, 1) := by decide +kernel
theorem d_X12_none_21 : decode cX12_none 21 = .ok (.iconst (-1), 1) := by decide +kernel
theorem d_X12_none_22 : decode cX12_none 22 = .ok (.if_icmp .ne 10, 3) := by decide +kernel
theorem d_X12_none_25 : decode cX12_none 25 = .ok (.aload_n 0, 1) := by decide +kernel
theorem d_X12_none_26 : decode cX12_none 26 = .ok (.bipush 10, 2) := by decide +kernel
theorem d_X12_none_28 : decode cX12_none 28 = .ok (.invokevirtual 187, 3) := by decide +kernel
theorem d_X12_none_31 : decode cX12_none 31 = .ok (.ireturn, 1) := by decide +kernel
theorem d_X12_none_32 : decode cX12_none 32 = .ok (.aload_n 0, 1) := by decide +kernel
theorem d_X12_none_33 : decode cX12_none 33 = .ok (.getfield 155, 3) := by decide +kernel
theorem d_X12_none_36 : decode cX12_none 36 = .ok (.iload_n 1, 1) := by decide +kernel
theorem d_X12_none_37 : decode cX12_none 37 = .ok (.iaload, 1) := by decide +kernel
theorem d_X12_none_38 : decode cX12_none 38 = .ok (.iconst 2, 1) := by decide +kernel
theorem d_X12_none_39 : decode cX12_none 39 = .ok (.if_icmp .eq 10, 3) := by decide +kernel
theorem d_X12_none_42 : decode cX12_none 42 = .ok (.aload_n 0, 1) := by decide +kernel
theorem d_X12_none_43 : decode cX12_none 43 = .ok (.bipush 11, 2) := by decide +kernel
theorem d_X12_none_45 : decode cX12_none 45 = .ok (.invokevirtual 187, 3) := by decide +kernel
theorem d_X12_none_48 : decode cX12_none 48 = .ok (.ireturn, 1) := by decide +kernel
theorem d_X12_none_49 : decode cX12_none 49 = .ok (.iload_n 2, 1) := by decide +kernel
theorem d_X12_none_50 : decode cX12_none 50 = .ok (.iconst 0, 1) := by decide +kernel
theorem d_X12_none_51 : decode cX12_none 51 = .ok (.aload_n 0, 1) := by decide +kernel
theorem d_X12_none_52 : decode cX12_none 52 = .ok (.getfield 158, 3) := by decide +kernel
theorem d_X12_none_55 : decode cX12_none 55 = .ok (.iload_n 1, 1) := by decide +kernel
theorem d_X12_none_56 : decode cX12_none 56 = .ok (.iaload, 1) := by decide +kernel
theorem d_X12_none_57 : decode cX12_none 57 = .ok (.iconst 1, 1) := by decide +kernel
theorem d_X12_none_58 : decode cX12_none 58 = .ok (.isub, 1) := by decide +kernel
theorem d_X12_none_59 : decode cX12_none 59 = .ok (.invokestatic 174, 3) := by decide +kernel
theorem d_X12_none_62 : decode cX12_none 62 = .ok (.ifCond .ne 10, 3) := by decide +kernel
theorem d_X12_none_65 : decode cX12_none 65 = .ok (.aload_n 0, 1) := by decide +kernel
theorem d_X12_none_66 : decode cX12_none 66 = .ok (.bipush 12, 2) := by decide +kernel
theorem d_X12_none_68 : decode cX12_none 68 = .ok (.invokevirtual 187, 3) := by decide +kernel
theorem d_X12_none_71 : decode cX12_none 71 = .ok (.ireturn, 1) := by decide +kernel
theorem d_X12_none_72 : decode cX12_none 72 = .ok (.aload_n 0, 1) := by decide +kernel
theorem d_X12_none_73 : decode cX12_none 73 = .ok (.getfield 164, 3) := by decide +kernel
theorem d_X12_none_76 : decode cX12_none 76 = .ok (.bipush 40, 2) := by decide +kernel
theorem d_X12_none_78 : decode cX12_none 78 = .ok (.iload_n 1, 1) := by decide +kernel
theorem d_X12_none_79 : decode cX12_none 79 = .ok (.imul, 1) := by decide +kernel
theorem d_X12_none_80 : decode cX12_none 80 = .ok (.iload_n 2, 1) := by decide +kernel
theorem d_X12_none_81 : decode cX12_none 81 = .ok (.iadd, 1) := by decide +kernel
theorem d_X12_none_82 : decode cX12_none 82 = .ok (.iconst 1, 1) := by decide +kernel
theorem d_X12_none_83 : decode cX12_none 83 = .ok (.bastore, 1) := by decide +kernel
theorem d_X12_none_84 : decode cX12_none 84 = .ok (.aload_n 0, 1) := by decide +kernel
theorem d_X12_none_85 : decode cX12_none 85 = .ok (.iconst 1, 1) := by decide +kernel
theorem d_X12_none_86 : decode cX12_none 86 = .ok (.invokevirtual 191, 3) := by decide +kernel
theorem d_X12_none_89 : decode cX12_none 89 = .ok (.ireturn, 1) := by decide +kernel
theorem d_X12_gauges_0 : decode cX12_gauges 0 = .ok (.iload_n 1, 1) := by decide +kernel
theorem d_X12_gauges_1 : decode cX12_gauges 1 = .ok (.invokestatic 194, 3) := by decide +kernel
theorem d_X12_gauges_4 : decode cX12_gauges 4 = .ok (.ifCond .eq 32, 3) := by decide +kernel
theorem d_X12_gauges_7 : decode cX12_gauges 7 = .ok (.iload_n 2, 1) := by decide +kernel
theorem d_X12_gauges_8 : decode cX12_gauges 8 = .ok (.iconst 0, 1) := by decide +kernel
theorem d_X12_gauges_9 : decode cX12_gauges 9 = .ok (.iconst 3, 1) := by decide +kernel
theorem d_X12_gauges_10 : decode cX12_gauges 10 = .ok (.invokestatic 174, 3) := by decide +kernel
theorem d_X12_gauges_13 : decode cX12_gauges 13 = .ok (.ifCond .eq 23, 3) := by decide +kernel
theorem d_X12_gauges_16 : decode cX12_gauges 16 = .ok (.iload 4, 2) := by decide +kernel
theorem d_X12_gauges_18 : decode cX12_gauges 18 = .ok (.iconst 0, 1) := by decide +kernel
theorem d_X12_gauges_19 : decode cX12_gauges 19 = .ok (.bipush 40, 2) := by decide +kernel
theorem d_X12_gauges_21 : decode cX12_gauges 21 = .ok (.invokestatic 174, 3) := by decide +kernel
theorem d_X12_gauges_24 : decode cX12_gauges 24 = .ok (.ifCond .eq 12, 3) := by decide +kernel
theorem d_X12_gauges_27 : decode cX12_gauges 27 = .ok (.iload_n 1, 1) := by decide +kernel
theorem d_X12_gauges_28 : decode cX12_gauges 28 = .ok (.iload 4, 2) := by decide +kernel
theorem d_X12_gauges_30 : decode cX12_gauges 30 = .ok (.iadd, 1) := by decide +kernel
theorem d_X12_gauges_31 : decode cX12_gauges 31 = .ok (.bipush 100, 2) := by decide +kernel
theorem d_X12_gauges_33 : decode cX12_gauges 33 = .ok (.if_icmp .le 9, 3) := by decide +kernel
theorem d_X12_gauges_36 : decode cX12_gauges 36 = .ok (.aload_n 0, 1) := by decide +kernel
theorem d_X12_gauges_37 : decode cX12_gauges 37 = .ok (.iconst 1, 1) := by decide +kernel
theorem d_X12_gauges_38 : decode cX12_gauges 38 = .ok (.invokevirtual 187, 3) := by decide +kernel
theorem d_X12_gauges_41 : decode cX12_gauges 41 = .ok (.ireturn, 1) := by decide +kernel
theorem d_X12_gauges_42 : decode cX12_gauges 42 = .ok (.aload_n 0, 1) := by decide +kernel
theorem d_X12_gauges_43 : decode cX12_gauges 43 = .ok (.getfield 155, 3) := by decide +kernel
theorem d_X12_gauges_46 : decode cX12_gauges 46 = .ok (.iload_n 2, 1) := by decide +kernel
theorem d_X12_gauges_47 : decode cX12_gauges 47 = .ok (.iaload, 1) := by decide +kernel
theorem d_X12_gauges_48 : decode cX12_gauges 48 = .ok (.iconst (-1), 1) := by decide +kernel
theorem d_X12_gauges_49 : decode cX12_gauges 49 = .ok (.if_icmp .ne 10, 3) := by decide +kernel
theorem d_X12_gauges_52 : decode cX12_gauges 52 = .ok (.aload_n 0, 1) := by decide +kernel
theorem d_X12_gauges_53 : decode cX12_gauges 53 = .ok (.bipush 10, 2) := by decide +kernel
theorem d_X12_gauges_55 : decode cX12_gauges 55 = .ok (.invokevirtual 187, 3) := by decide +kernel
theorem d_X12_gauges_58 : decode cX12_gauges 58 = .ok (.ireturn, 1) := by decide +kernel
theorem d_X12_gauges_59 : decode cX12_gauges 59 = .ok (.aload_n 0, 1) := by decide +kernel
theorem d_X12_gauges_60 : decode cX12_gauges 60 = .ok (.getfield 155, 3) := by decide +kernel
theorem d_X12_gauges_63 : decode cX12_gauges 63 = .ok (.iload_n 2, 1) := by decide +kernel
theorem d_X12_gauges_64 : decode cX12_gauges 64 = .ok (.iaload, 1) := by decide +kernel
theorem d_X12_gauges_65 : decode cX12_gauges 65 = .ok (.iconst 2, 1) := by decide +kernel
theorem d_X12_gauges_66 : decode cX12_gauges 66 = .ok (.if_icmp .eq 10, 3) := by decide +kernel
theorem d_X12_gauges_69 : decode cX12_gauges 69 = .ok (.aload_n 0, 1) := by decide +kernel
theorem d_X12_gauges_70 : decode cX12_gauges 70 = .ok (.bipush 11, 2) := by decide +kernel
theorem d_X12_gauges_72 : decode cX12_gauges 72 = .ok (.invokevirtual 187, 3) := by decide +kernel
theorem d_X12_gauges_75 : decode cX12_gauges 75 = .ok (.ireturn, 1) := by decide +kernel
theorem d_X12_gauges_76 : decode cX12_gauges 76 = .ok (.iconst 0, 1) := by decide +kernel
theorem d_X12_gauges_77 : decode cX12_gauges 77 = .ok (.istore 5, 2) := by decide +kernel
theorem d_X12_gauges_79 : decode cX12_gauges 79 = .ok (.iload 5, 2) := by decide +kernel
theorem d_X12_gauges_81 : decode cX12_gauges 81 = .ok (.iload 4, 2) := by decide +kernel
theorem d_X12_gauges_83 : decode cX12_gauges 83 = .ok (.if_icmp .ge 98, 3) := by decide +kernel
theorem d_X12_gauges_86 : decode cX12_gauges 86 = .ok (.iload_n 3, 1) := by decide +kernel
theorem d_X12_gauges_87 : decode cX12_gauges 87 = .ok (.ifCond .lt 16, 3) := by decide +kernel
theorem d_X12_gauges_90 : decode cX12_gauges 90 = .ok (.iload_n 3, 1) := by decide +kernel
theorem d_X12_gauges_91 : decode cX12_gauges 91 = .ok (.aload_n 0, 1) := by decide +kernel
theorem d_X12_gauges_92 : decode cX12_gauges 92 = .ok (.getfield 158, 3) := by decide +kernel
theorem d_X12_gauges_95 : decode cX12_gauges 95 = .ok (.iload_n 2, 1) := by decide +kernel
theorem d_X12_gauges_96 : decode cX12_gauges 96 = .ok (.iaload, 1) := by decide +kernel
theorem d_X12_gauges_97 : decode cX12_gauges 97 = .ok (.iload 5, 2) := by decide +kernel
theorem d_X12_gauges_99 : decode cX12_gauges 99 = .ok (.isub, 1) := by decide +kernel
theorem d_X12_gauges_100 : decode cX12_gauges 100 = .ok (.if_icmp .lt 10, 3) := by decide +kernel
theorem d_X12_gauges_103 : decode cX12_gauges 103 = .ok (.aload_n 0, 1) := by decide +kernel
theorem d_X12_gauges_104 : decode cX12_gauges 104 = .ok (.bipush 12, 2) := by decide +kernel
theorem d_X12_gauges_106 : decode cX12_gauges 106 = .ok (.invokevirtual 187, 3) := by decide +kernel
theorem d_X12_gauges_109 : decode cX12_gauges 109 = .ok (.ireturn, 1) := by decide +kernel
theorem d_X12_gauges_110 : decode cX12_gauges 110 = .ok (.bipush 40, 2) := by decide +kernel
theorem d_X12_gauges_112 : decode cX12_gauges 112 = .ok (.iload_n 2, 1) := by decide +kernel
theorem d_X12_gauges_113 : decode cX12_gauges 113 = .ok (.imul, 1) := by decide +kernel
theorem d_X12_gauges_114 : decode cX12_gauges 114 = .ok (.iload_n 3, 1) := by decide +kernel
theorem d_X12_gauges_115 : decode cX12_gauges 115 = .ok (.iadd, 1) := by decide +kernel
theorem d_X12_gauges_116 : decode cX12_gauges 116 = .ok (.iload 5, 2) := by decide +kernel
theorem d_X12_gauges_118 : decode cX12_gauges 118 = .ok (.iadd, 1) := by decide +kernel
theorem d_X12_gauges_119 : decode cX12_gauges 119 = .ok (.istore 6, 2) := by decide +kernel
theorem d_X12_gauges_121 : decode cX12_gauges 121 = .ok (.aload_n 0, 1) := by decide +kernel
theorem d_X12_gauges_122 : decode cX12_gauges 122 = .ok (.getfield 161, 3) := by decide +kernel
theorem d_X12_gauges_125 : decode cX12_gauges 125 = .ok (.iload 6, 2) := by decide +kernel
theorem d_X12_gauges_127 : decode cX12_gauges 127 = .ok (.iaload, 1) := by decide +kernel
theorem d_X12_gauges_128 : decode cX12_gauges 128 = .ok (.iconst 2, 1) := by decide +kernel
theorem d_X12_gauges_129 : decode cX12_gauges 129 = .ok (.idiv, 1) := by decide +kernel
theorem d_X12_gauges_130 : decode cX12_gauges 130 = .ok (.istore 7, 2) := by decide +kernel
theorem d_X12_gauges_132 : decode cX12_gauges 132 = .ok (.aload_n 0, 1) := by decide +kernel
theorem d_X12_gauges_133 : decode cX12_gauges 133 = .ok (.getfield 164, 3) := by decide +kernel
theorem d_X12_gauges_136 : decode cX12_gauges 136 = .ok (.iload 6, 2) := by decide +kernel
theorem d_X12_gauges_138 : decode cX12_gauges 138 = .ok (.baload, 1) := by decide +kernel
theorem d_X12_gauges_139 : decode cX12_gauges 139 = .ok (.ifCond .ne 36, 3) := by decide +kernel
theorem d_X12_gauges_142 : decode cX12_gauges 142 = .ok (.iload 7, 2) := by decide +kernel
theorem d_X12_gauges_144 : decode cX12_gauges 144 = .ok (.bipush (-20), 2) := by decide +kernel
theorem d_X12_gauges_146 : decode cX12_gauges 146 = .ok (.bipush 40, 2) := by decide +kernel
theorem d_X12_gauges_148 : decode cX12_gauges 148 = .ok (.invokestatic 174, 3) := by decide +kernel
theorem d_X12_gauges_151 : decode cX12_gauges 151 = .ok (.ifCond .eq 24, 3) := by decide +kernel
theorem d_X12_gauges_154 : decode cX12_gauges 154 = .ok (.aload_n 0, 1) := by decide +kernel
theorem d_X12_gauges_155 : decode cX12_gauges 155 = .ok (.getfield 29, 3) := by decide +kernel
theorem d_X12_gauges_158 : decode cX12_gauges 158 = .ok (.iload_n 1, 1) := by decide +kernel
theorem d_X12_gauges_159 : decode cX12_gauges 159 = .ok (.iload 5, 2) := by decide +kernel
theorem d_X12_gauges_161 : decode cX12_gauges 161 = .ok (.iadd, 1) := by decide +kernel
theorem d_X12_gauges_162 : decode cX12_gauges 162 = .ok (.iload 7, 2) := by decide +kernel
theorem d_X12_gauges_164 : decode cX12_gauges 164 = .ok (.iastore, 1) := by decide +kernel
theorem d_X12_gauges_165 : decode cX12_gauges 165 = .ok (.aload_n 0, 1) := by decide +kernel
theorem d_X12_gauges_166 : decode cX12_gauges 166 = .ok (.getfield 32, 3) := by decide +kernel
theorem d_X12_gauges_169 : decode cX12_gauges 169 = .ok (.iload_n 1, 1) := by decide +kernel
theorem d_X12_gauges_170 : decode cX12_gauges 170 = .ok (.iload 5, 2) := by decide +kernel
theorem d_X12_gauges_172 : decode cX12_gauges 172 = .ok (.iadd, 1) := by decide +kernel
theorem d_X12_gauges_173 : decode cX12_gauges 173 = .ok (.iconst 1, 1) := by decide +kernel
theorem d_X12_gauges_174 : decode cX12_gauges 174 = .ok (.bastore, 1) := by decide +kernel
theorem d_X12_gauges_175 : decode cX12_gauges 175 = .ok (.iinc 5 1, 3) := by decide +kernel
theorem d_X12_gauges_178 : decode cX12_gauges 178 = .ok (.goto (-99), 3) := by decide +kernel
theorem d_X12_gauges_181 : decode cX12_gauges 181 = .ok (.aload_n 0, 1) := by decide +kernel
theorem d_X12_gauges_182 : decode cX12_gauges 182 = .ok (.aload_n 0, 1) := by decide +kernel
theorem d_X12_gauges_183 : decode cX12_gauges 183 = .ok (.invokevirtual 198, 3) := by decide +kernel
theorem d_X12_gauges_186 : decode cX12_gauges 186 = .ok (.invokevirtual 191, 3) := by decide +kernel
theorem d_X12_gauges_189 : decode cX12_gauges 189 = .ok (.ireturn, 1) := by decide +kernel
theorem d_X12_modulo_0 : decode cX12_modulo 0 = .ok (.iload_n 0, 1) := by decide +kernel
theorem d_X12_modulo_1 : decode cX12_modulo 1 = .ok (.iload_n 1, 1) := by decide +kernel
theorem d_X12_modulo_2 : decode cX12_modulo 2 = .ok (.irem, 1) := by decide +kernel
theorem d_X12_modulo_3 : decode cX12_modulo 3 = .ok (.iload_n 1, 1) := by decide +kernel
theorem d_X12_modulo_4 : decode cX12_modulo 4 = .ok (.iadd, 1) := by decide +kernel
theorem d_X12_modulo_5 : decode cX12_modulo 5 = .ok (.iload_n 1, 1) := by decide +kernel
theorem d_X12_modulo_6 : decode cX12_modulo 6 = .ok (.irem, 1) := by decide +kernel
theorem d_X12_modulo_7 : decode cX12_modulo 7 = .ok (.ireturn, 1) := by decide +kernel
theorem d_X12_copied_0 : decode cX12_copied 0 = .ok (.aload_n 0, 1) := by decide +kernel
theorem d_X12_copied_1 : decode cX12_copied 1 = .ok (.getfield 155, 3) := by decide +kernel
theorem d_X12_copied_4 : decode cX12_copied 4 = .ok (.iload_n 2, 1) := by decide +kernel
theorem d_X12_copied_5 : decode cX12_copied 5 = .ok (.iaload, 1) := by decide +kernel
theorem d_X12_copied_6 : decode cX12_copied 6 = .ok (.iconst (-1), 1) := by decide +kernel
theorem d_X12_copied_7 : decode cX12_copied 7 = .ok (.if_icmp .eq 19, 3) := by decide +kernel
theorem d_X12_copied_10 : decode cX12_copied 10 = .ok (.aload_n 0, 1) := by decide +kernel
theorem d_X12_copied_11 : decode cX12_copied 11 = .ok (.getfield 155, 3) := by decide +kernel
theorem d_X12_copied_14 : decode cX12_copied 14 = .ok (.iload_n 2, 1) := by decide +kernel
theorem d_X12_copied_15 : decode cX12_copied 15 = .ok (.iaload, 1) := by decide +kernel
theorem d_X12_copied_16 : decode cX12_copied 16 = .ok (.ifCond .eq 10, 3) := by decide +kernel
theorem d_X12_copied_19 : decode cX12_copied 19 = .ok (.aload_n 0, 1) := by decide +kernel
theorem d_X12_copied_20 : decode cX12_copied 20 = .ok (.bipush 11, 2) := by decide +kernel
theorem d_X12_copied_22 : decode cX12_copied 22 = .ok (.invokevirtual 187, 3) := by decide +kernel
theorem d_X12_copied_25 : decode cX12_copied 25 = .ok (.ireturn, 1) := by decide +kernel
theorem d_X12_copied_26 : decode cX12_copied 26 = .ok (.aload_n 0, 1) := by decide +kernel
theorem d_X12_copied_27 : decode cX12_copied 27 = .ok (.getfield 155, 3) := by decide +kernel
theorem d_X12_copied_30 : decode cX12_copied 30 = .ok (.iload_n 2, 1) := by decide +kernel
theorem d_X12_copied_31 : decode cX12_copied 31 = .ok (.iaload, 1) := by decide +kernel
theorem d_X12_copied_32 : decode cX12_copied 32 = .ok (.iconst (-1), 1) := by decide +kernel
theorem d_X12_copied_33 : decode cX12_copied 33 = .ok (.if_icmp .ne 10, 3) := by decide +kernel
theorem d_X12_copied_36 : decode cX12_copied 36 = .ok (.aload_n 0, 1) := by decide +kernel
theorem d_X12_copied_37 : decode cX12_copied 37 = .ok (.bipush 10, 2) := by decide +kernel
theorem d_X12_copied_39 : decode cX12_copied 39 = .ok (.invokevirtual 187, 3) := by decide +kernel
theorem d_X12_copied_42 : decode cX12_copied 42 = .ok (.ireturn, 1) := by decide +kernel
theorem d_X12_copied_43 : decode cX12_copied 43 = .ok (.iload_n 1, 1) := by decide +kernel
theorem d_X12_copied_44 : decode cX12_copied 44 = .ok (.ifCond .lt 23, 3) := by decide +kernel
theorem d_X12_copied_47 : decode cX12_copied 47 = .ok (.iload_n 1, 1) := by decide +kernel
theorem d_X12_copied_48 : decode cX12_copied 48 = .ok (.iconst 1, 1) := by decide +kernel
theorem d_X12_copied_49 : decode cX12_copied 49 = .ok (.iadd, 1) := by decide +kernel
theorem d_X12_copied_50 : decode cX12_copied 50 = .ok (.aload_n 0, 1) := by decide +kernel
theorem d_X12_copied_51 : decode cX12_copied 51 = .ok (.getfield 158, 3) := by decide +kernel
theorem d_X12_copied_54 : decode cX12_copied 54 = .ok (.iload_n 2, 1) := by decide +kernel
theorem d_X12_copied_55 : decode cX12_copied 55 = .ok (.iaload, 1) := by decide +kernel
theorem d_X12_copied_56 : decode cX12_copied 56 = .ok (.if_icmp .gt 11, 3) := by decide +kernel
theorem d_X12_copied_59 : decode cX12_copied 59 = .ok (.iconst 2, 1) := by decide +kernel
theorem d_X12_copied_60 : decode cX12_copied 60 = .ok (.iload_n 1, 1) := by decide +kernel
theorem d_X12_copied_61 : decode cX12_copied 61 = .ok (.imul, 1) := by decide +kernel
theorem d_X12_copied_62 : decode cX12_copied 62 = .ok (.bipush 6, 2) := by decide +kernel
theorem d_X12_copied_64 : decode cX12_copied 64 = .ok (.if_icmp .le 10, 3) := by decide +kernel
theorem d_X12_copied_67 : decode cX12_copied 67 = .ok (.aload_n 0, 1) := by decide +kernel
theorem d_X12_copied_68 : decode cX12_copied 68 = .ok (.bipush 12, 2) := by decide +kernel
theorem d_X12_copied_70 : decode cX12_copied 70 = .ok (.invokevirtual 187, 3) := by decide +kernel
theorem d_X12_copied_73 : decode cX12_copied 73 = .ok (.ireturn, 1) := by decide +kernel
theorem d_X12_copied_74 : decode cX12_copied 74 = .ok (.iconst 0, 1) := by decide +kernel
theorem d_X12_copied_75 : decode cX12_copied 75 = .ok (.istore_n 3, 1) := by decide +kernel
theorem d_X12_copied_76 : decode cX12_copied 76 = .ok (.iconst 0, 1) := by decide +kernel
theorem d_X12_copied_77 : decode cX12_copied 77 = .ok (.istore 4, 2) := by decide +kernel
theorem d_X12_copied_79 : decode cX12_copied 79 = .ok (.iload 4, 2) := by decide +kernel
theorem d_X12_copied_81 : decode cX12_copied 81 = .ok (.iload_n 1, 1) := by decide +kernel
theorem d_X12_copied_82 : decode cX12_copied 82 = .ok (.if_icmp .ge 26, 3) := by decide +kernel
theorem d_X12_copied_85 : decode cX12_copied 85 = .ok (.iload_n 3, 1) := by decide +kernel
theorem d_X12_copied_86 : decode cX12_copied 86 = .ok (.aload_n 0, 1) := by decide +kernel
theorem d_X12_copied_87 : decode cX12_copied 87 = .ok (.getfield 161, 3) := by decide +kernel
theorem d_X12_copied_90 : decode cX12_copied 90 = .ok (.bipush 40, 2) := by decide +kernel
theorem d_X12_copied_92 : decode cX12_copied 92 = .ok (.iload_n 2, 1) := by decide +kernel
theorem d_X12_copied_93 : decode cX12_copied 93 = .ok (.imul, 1) := by decide +kernel
theorem d_X12_copied_94 : decode cX12_copied 94 = .ok (.iconst 1, 1) := by decide +kernel
theorem d_X12_copied_95 : decode cX12_copied 95 = .ok (.iadd, 1) := by decide +kernel
theorem d_X12_copied_96 : decode cX12_copied 96 = .ok (.iload 4, 2) := by decide +kernel
theorem d_X12_copied_98 : decode cX12_copied 98 = .ok (.iadd, 1) := by decide +kernel
theorem d_X12_copied_99 : decode cX12_copied 99 = .ok (.iaload, 1) := by decide +kernel
theorem d_X12_copied_100 : decode cX12_copied 100 = .ok (.iadd, 1) := by decide +kernel
theorem d_X12_copied_101 : decode cX12_copied 101 = .ok (.istore_n 3, 1) := by decide +kernel
theorem d_X12_copied_102 : decode cX12_copied 102 = .ok (.iinc 4 1, 3) := by decide +kernel
theorem d_X12_copied_105 : decode cX12_copied 105 = .ok (.goto (-26), 3) := by decide +kernel
theorem d_X12_copied_108 : decode cX12_copied 108 = .ok (.aload_n 0, 1) := by decide +kernel
theorem d_X12_copied_109 : decode cX12_copied 109 = .ok (.iload_n 3, 1) := by decide +kernel
theorem d_X12_copied_110 : decode cX12_copied 110 = .ok (.invokevirtual 191, 3) := by decide +kernel
theorem d_X12_copied_113 : decode cX12_copied 113 = .ok (.ireturn, 1) := by decide +kernel
theorem d_X12_shorts_0 : decode cX12_shorts 0 = .ok (.aload_n 0, 1) := by decide +kernel
theorem d_X12_shorts_1 : decode cX12_shorts 1 = .ok (.getfield 155, 3) := by decide +kernel
theorem d_X12_shorts_4 : decode cX12_shorts 4 = .ok (.iload_n 2, 1) := by decide +kernel
theorem d_X12_shorts_5 : decode cX12_shorts 5 = .ok (.iaload, 1) := by decide +kernel
theorem d_X12_shorts_6 : decode cX12_shorts 6 = .ok (.iconst (-1), 1) := by decide +kernel
theorem d_X12_shorts_7 : decode cX12_shorts 7 = .ok (.if_icmp .eq 20, 3) := by decide +kernel
theorem d_X12_shorts_10 : decode cX12_shorts 10 = .ok (.aload_n 0, 1) := by decide +kernel
theorem d_X12_shorts_11 : decode cX12_shorts 11 = .ok (.getfield 155, 3) := by decide +kernel
theorem d_X12_shorts_14 : decode cX12_shorts 14 = .ok (.iload_n 2, 1) := by decide +kernel
theorem d_X12_shorts_15 : decode cX12_shorts 15 = .ok (.iaload, 1) := by decide +kernel
theorem d_X12_shorts_16 : decode cX12_shorts 16 = .ok (.iconst 1, 1) := by decide +kernel
theorem d_X12_shorts_17 : decode cX12_shorts 17 = .ok (.if_icmp .eq 10, 3) := by decide +kernel
theorem d_X12_shorts_20 : decode cX12_shorts 20 = .ok (.aload_n 0, 1) := by decide +kernel
theorem d_X12_shorts_21 : decode cX12_shorts 21 = .ok (.bipush 11, 2) := by decide +kernel
theorem d_X12_shorts_23 : decode cX12_shorts 23 = .ok (.invokevirtual 187, 3) := by decide +kernel
theorem d_X12_shorts_26 : decode cX12_shorts 26 = .ok (.ireturn, 1) := by decide +kernel
theorem d_X12_shorts_27 : decode cX12_shorts 27 = .ok (.aload_n 0, 1) := by decide +kernel
theorem d_X12_shorts_28 : decode cX12_shorts 28 = .ok (.getfield 155, 3) := by decide +kernel
theorem d_X12_shorts_31 : decode cX12_shorts 31 = .ok (.iload_n 2, 1) := by decide +kernel
theorem d_X12_shorts_32 : decode cX12_shorts 32 = .ok (.iaload, 1) := by decide +kernel
theorem d_X12_shorts_33 : decode cX12_shorts 33 = .ok (.iconst (-1), 1) := by decide +kernel
theorem d_X12_shorts_34 : decode cX12_shorts 34 = .ok (.if_icmp .ne 10, 3) := by decide +kernel
theorem d_X12_shorts_37 : decode cX12_shorts 37 = .ok (.aload_n 0, 1) := by decide +kernel
theorem d_X12_shorts_38 : decode cX12_shorts 38 = .ok (.bipush 10, 2) := by decide +kernel
theorem d_X12_shorts_40 : decode cX12_shorts 40 = .ok (.invokevirtual 187, 3) := by decide +kernel
theorem d_X12_shorts_43 : decode cX12_shorts 43 = .ok (.ireturn, 1) := by decide +kernel
theorem d_X12_shorts_44 : decode cX12_shorts 44 = .ok (.iload_n 1, 1) := by decide +kernel
theorem d_X12_shorts_45 : decode cX12_shorts 45 = .ok (.iconst 0, 1) := by decide +kernel
theorem d_X12_shorts_46 : decode cX12_shorts 46 = .ok (.aload_n 0, 1) := by decide +kernel
theorem d_X12_shorts_47 : decode cX12_shorts 47 = .ok (.getfield 158, 3) := by decide +kernel
theorem d_X12_shorts_50 : decode cX12_shorts 50 = .ok (.iload_n 2, 1) := by decide +kernel
theorem d_X12_shorts_51 : decode cX12_shorts 51 = .ok (.iaload, 1) := by decide +kernel
theorem d_X12_shorts_52 : decode cX12_shorts 52 = .ok (.iconst 1, 1) := by decide +kernel
theorem d_X12_shorts_53 : decode cX12_shorts 53 = .ok (.isub, 1) := by decide +kernel
theorem d_X12_shorts_54 : decode cX12_shorts 54 = .ok (.invokestatic 174, 3) := by decide +kernel
theorem d_X12_shorts_57 : decode cX12_shorts 57 = .ok (.ifCond .eq 21, 3) := by decide +kernel
theorem d_X12_shorts_60 : decode cX12_shorts 60 = .ok (.aload_n 0, 1) := by decide +kernel
theorem d_X12_shorts_61 : decode cX12_shorts 61 = .ok (.aload_n 0, 1) := by decide +kernel
theorem d_X12_shorts_62 : decode cX12_shorts 62 = .ok (.getfield 161, 3) := by decide +kernel
theorem d_X12_shorts_65 : decode cX12_shorts 65 = .ok (.bipush 40, 2) := by decide +kernel
theorem d_X12_shorts_67 : decode cX12_shorts 67 = .ok (.iload_n 2, 1) := by decide +kernel
theorem d_X12_shorts_68 : decode cX12_shorts 68 = .ok (.imul, 1) := by decide +kernel
theorem d_X12_shorts_69 : decode cX12_shorts 69 = .ok (.iload_n 1, 1) := by decide +kernel
theorem d_X12_shorts_70 : decode cX12_shorts 70 = .ok (.iadd, 1) := by decide +kernel
theorem d_X12_shorts_71 : decode cX12_shorts 71 = .ok (.iaload, 1) := by decide +kernel
theorem d_X12_shorts_72 : decode cX12_shorts 72 = .ok (.invokevirtual 191, 3) := by decide +kernel
theorem d_X12_shorts_75 : decode cX12_shorts 75 = .ok (.goto 9, 3) := by decide +kernel
theorem d_X12_shorts_78 : decode cX12_shorts 78 = .ok (.aload_n 0, 1) := by decide +kernel
theorem d_X12_shorts_79 : decode cX12_shorts 79 = .ok (.bipush 12, 2) := by decide +kernel
theorem d_X12_shorts_81 : decode cX12_shorts 81 = .ok (.invokevirtual 187, 3) := by decide +kernel
theorem d_X12_shorts_84 : decode cX12_shorts 84 = .ok (.ireturn, 1) := by decide +kernel
theorem d_X12_forge_0 : decode cX12_forge 0 = .ok (.iload_n 1, 1) := by decide +kernel
theorem d_X12_forge_1 : decode cX12_forge 1 = .ok (.iconst 0, 1) := by decide +kernel
theorem d_X12_forge_2 : decode cX12_forge 2 = .ok (.bipush 6, 2) := by decide +kernel
theorem d_X12_forge_4 : decode cX12_forge 4 = .ok (.invokestatic 174, 3) := by decide +kernel
theorem d_X12_forge_7 : decode cX12_forge 7 = .ok (.ifCond .eq 25, 3) := by decide +kernel
theorem d_X12_forge_10 : decode cX12_forge 10 = .ok (.iload_n 2, 1) := by decide +kernel
theorem d_X12_forge_11 : decode cX12_forge 11 = .ok (.bipush (-100), 2) := by decide +kernel
theorem d_X12_forge_13 : decode cX12_forge 13 = .ok (.bipush 100, 2) := by decide +kernel
theorem d_X12_forge_15 : decode cX12_forge 15 = .ok (.invokestatic 174, 3) := by decide +kernel
theorem d_X12_forge_18 : decode cX12_forge 18 = .ok (.ifCond .eq 14, 3) := by decide +kernel
theorem d_X12_forge_21 : decode cX12_forge 21 = .ok (.iload_n 3, 1) := by decide +kernel
theorem d_X12_forge_22 : decode cX12_forge 22 = .ok (.bipush (-100), 2) := by decide +kernel
theorem d_X12_forge_24 : decode cX12_forge 24 = .ok (.bipush 100, 2) := by decide +kernel
theorem d_X12_forge_26 : decode cX12_forge 26 = .ok (.invokestatic 174, 3) := by decide +kernel
theorem d_X12_forge_29 : decode cX12_forge 29 = .ok (.ifCond .ne 9, 3) := by decide +kernel
theorem d_X12_forge_32 : decode cX12_forge 32 = .ok (.aload_n 0, 1) := by decide +kernel
theorem d_X12_forge_33 : decode cX12_forge 33 = .ok (.iconst 1, 1) := by decide +kernel
theorem d_X12_forge_34 : decode cX12_forge 34 = .ok (.invokevirtual 187, 3) := by decide +kernel
theorem d_X12_forge_37 : decode cX12_forge 37 = .ok (.ireturn, 1) := by decide +kernel
theorem d_X12_forge_38 : decode cX12_forge 38 = .ok (.iload_n 3, 1) := by decide +kernel
theorem d_X12_forge_39 : decode cX12_forge 39 = .ok (.bipush 10, 2) := by decide +kernel
theorem d_X12_forge_41 : decode cX12_forge 41 = .ok (.invokestatic 351, 3) := by decide +kernel
theorem d_X12_forge_44 : decode cX12_forge 44 = .ok (.istore 4, 2) := by decide +kernel
theorem d_X12_forge_46 : decode cX12_forge 46 = .ok (.iload_n 1, 1) := by decide +kernel
theorem d_X12_forge_47 : decode cX12_forge 47 = .ok (.tableswitch 206 0 5 #[37, 95, 114, 125, 136, 183], 37) := by decide +kernel
theorem d_X12_forge_84 : decode cX12_forge 84 = .ok (.iload 4, 2) := by decide +kernel
theorem d_X12_forge_86 : decode cX12_forge 86 = .ok (.aload_n 0, 1) := by decide +kernel
theorem d_X12_forge_87 : decode cX12_forge 87 = .ok (.getfield 171, 3) := by decide +kernel
theorem d_X12_forge_90 : decode cX12_forge 90 = .ok (.if_icmp .lt 12, 3) := by decide +kernel
theorem d_X12_forge_93 : decode cX12_forge 93 = .ok (.aload_n 0, 1) := by decide +kernel
theorem d_X12_forge_94 : decode cX12_forge 94 = .ok (.bipush 10, 2) := by decide +kernel
theorem d_X12_forge_96 : decode cX12_forge 96 = .ok (.invokevirtual 187, 3) := by decide +kernel
theorem d_X12_forge_99 : decode cX12_forge 99 = .ok (.goto 42, 3) := by decide +kernel
theorem d_X12_forge_102 : decode cX12_forge 102 = .ok (.aload_n 0, 1) := by decide +kernel
theorem d_X12_forge_103 : decode cX12_forge 103 = .ok (.getfield 7, 3) := by decide +kernel
theorem d_X12_forge_106 : decode cX12_forge 106 = .ok (.iload 4, 2) := by decide +kernel
theorem d_X12_forge_108 : decode cX12_forge 108 = .ok (.iaload, 1) := by decide +kernel
theorem d_X12_forge_109 : decode cX12_forge 109 = .ok (.iload_n 2, 1) := by decide +kernel
theorem d_X12_forge_110 : decode cX12_forge 110 = .ok (.bipush 6, 2) := by decide +kernel
theorem d_X12_forge_112 : decode cX12_forge 112 = .ok (.invokestatic 351, 3) := by decide +kernel
theorem d_X12_forge_115 : decode cX12_forge 115 = .ok (.invokestatic 299, 3) := by decide +kernel
theorem d_X12_forge_118 : decode cX12_forge 118 = .ok (.ifCond .eq 17, 3) := by decide +kernel
theorem d_X12_forge_121 : decode cX12_forge 121 = .ok (.aload_n 0, 1) := by decide +kernel
theorem d_X12_forge_122 : decode cX12_forge 122 = .ok (.aload_n 0, 1) := by decide +kernel
theorem d_X12_forge_123 : decode cX12_forge 123 = .ok (.getfield 7, 3) := by decide +kernel
theorem d_X12_forge_126 : decode cX12_forge 126 = .ok (.iload 4, 2) := by decide +kernel
theorem d_X12_forge_128 : decode cX12_forge 128 = .ok (.iaload, 1) := by decide +kernel
theorem d_X12_forge_129 : decode cX12_forge 129 = .ok (.invokevirtual 191, 3) := by decide +kernel
theorem d_X12_forge_132 : decode cX12_forge 132 = .ok (.goto 9, 3) := by decide +kernel
theorem d_X12_forge_135 : decode cX12_forge 135 = .ok (.aload_n 0, 1) := by decide +kernel
theorem d_X12_forge_136 : decode cX12_forge 136 = .ok (.bipush 11, 2) := by decide +kernel
theorem d_X12_forge_138 : decode cX12_forge 138 = .ok (.invokevirtual 187, 3) := by decide +kernel
theorem d_X12_forge_141 : decode cX12_forge 141 = .ok (.ireturn, 1) := by decide +kernel
theorem d_X12_forge_142 : decode cX12_forge 142 = .ok (.iload_n 2, 1) := by decide +kernel
theorem d_X12_forge_143 : decode cX12_forge 143 = .ok (.ifCond .ge 12, 3) := by decide +kernel
theorem d_X12_forge_146 : decode cX12_forge 146 = .ok (.aload_n 0, 1) := by decide +kernel
theorem d_X12_forge_147 : decode cX12_forge 147 = .ok (.bipush 13, 2) := by decide +kernel
theorem d_X12_forge_149 : decode cX12_forge 149 = .ok (.invokevirtual 187, 3) := by decide +kernel
theorem d_X12_forge_152 : decode cX12_forge 152 = .ok (.goto 8, 3) := by decide +kernel
theorem d_X12_forge_155 : decode cX12_forge 155 = .ok (.aload_n 0, 1) := by decide +kernel
theorem d_X12_forge_156 : decode cX12_forge 156 = .ok (.iload_n 2, 1) := by decide +kernel
theorem d_X12_forge_157 : decode cX12_forge 157 = .ok (.invokevirtual 191, 3) := by decide +kernel
theorem d_X12_forge_160 : decode cX12_forge 160 = .ok (.ireturn, 1) := by decide +kernel
theorem d_X12_forge_161 : decode cX12_forge 161 = .ok (.aload_n 0, 1) := by decide +kernel
theorem d_X12_forge_162 : decode cX12_forge 162 = .ok (.iload_n 2, 1) := by decide +kernel
theorem d_X12_forge_163 : decode cX12_forge 163 = .ok (.iload_n 3, 1) := by decide +kernel
theorem d_X12_forge_164 : decode cX12_forge 164 = .ok (.iconst 4, 1) := by decide +kernel
theorem d_X12_forge_165 : decode cX12_forge 165 = .ok (.invokestatic 351, 3) := by decide +kernel
theorem d_X12_forge_168 : decode cX12_forge 168 = .ok (.invokevirtual 354, 3) := by decide +kernel
theorem d_X12_forge_171 : decode cX12_forge 171 = .ok (.ireturn, 1) := by decide +kernel
theorem d_X12_forge_172 : decode cX12_forge 172 = .ok (.aload_n 0, 1) := by decide +kernel
theorem d_X12_forge_173 : decode cX12_forge 173 = .ok (.iload_n 2, 1) := by decide +kernel
theorem d_X12_forge_174 : decode cX12_forge 174 = .ok (.iload_n 3, 1) := by decide +kernel
theorem d_X12_forge_175 : decode cX12_forge 175 = .ok (.iconst 4, 1) := by decide +kernel
theorem d_X12_forge_176 : decode cX12_forge 176 = .ok (.invokestatic 351, 3) := by decide +kernel
theorem d_X12_forge_179 : decode cX12_forge 179 = .ok (.invokevirtual 357, 3) := by decide +kernel
theorem d_X12_forge_182 : decode cX12_forge 182 = .ok (.ireturn, 1) := by decide +kernel
theorem d_X12_forge_183 : decode cX12_forge 183 = .ok (.iload 4, 2) := by decide +kernel
theorem d_X12_forge_185 : decode cX12_forge 185 = .ok (.aload_n 0, 1) := by decide +kernel
theorem d_X12_forge_186 : decode cX12_forge 186 = .ok (.getfield 171, 3) := by decide +kernel
theorem d_X12_forge_189 : decode cX12_forge 189 = .ok (.if_icmp .lt 11, 3) := by decide +kernel
theorem d_X12_forge_192 : decode cX12_forge 192 = .ok (.aload_n 0, 1) := by decide +kernel
theorem d_X12_forge_193 : decode cX12_forge 193 = .ok (.iconst 0, 1) := by decide +kernel
theorem d_X12_forge_194 : decode cX12_forge 194 = .ok (.invokevirtual 191, 3) := by decide +kernel
theorem d_X12_forge_197 : decode cX12_forge 197 = .ok (.goto 32, 3) := by decide +kernel
theorem d_X12_forge_200 : decode cX12_forge 200 = .ok (.aload_n 0, 1) := by decide +kernel
theorem d_X12_forge_201 : decode cX12_forge 201 = .ok (.iload 4, 2) := by decide +kernel
theorem d_X12_forge_203 : decode cX12_forge 203 = .ok (.invokevirtual 205, 3) := by decide +kernel
theorem d_X12_forge_206 : decode cX12_forge 206 = .ok (.ifCond .eq 17, 3) := by decide +kernel
theorem d_X12_forge_209 : decode cX12_forge 209 = .ok (.aload_n 0, 1) := by decide +kernel
theorem d_X12_forge_210 : decode cX12_forge 210 = .ok (.aload_n 0, 1) := by decide +kernel
theorem d_X12_forge_211 : decode cX12_forge 211 = .ok (.getfield 7, 3) := by decide +kernel
theorem d_X12_forge_214 : decode cX12_forge 214 = .ok (.iload 4, 2) := by decide +kernel
theorem d_X12_forge_216 : decode cX12_forge 216 = .ok (.iaload, 1) := by decide +kernel
theorem d_X12_forge_217 : decode cX12_forge 217 = .ok (.invokevirtual 191, 3) := by decide +kernel
theorem d_X12_forge_220 : decode cX12_forge 220 = .ok (.goto 9, 3) := by decide +kernel
theorem d_X12_forge_223 : decode cX12_forge 223 = .ok (.aload_n 0, 1) := by decide +kernel
theorem d_X12_forge_224 : decode cX12_forge 224 = .ok (.bipush 14, 2) := by decide +kernel
theorem d_X12_forge_226 : decode cX12_forge 226 = .ok (.invokevirtual 187, 3) := by decide +kernel
theorem d_X12_forge_229 : decode cX12_forge 229 = .ok (.ireturn, 1) := by decide +kernel
theorem d_X12_forge_230 : decode cX12_forge 230 = .ok (.iload_n 2, 1) := by decide +kernel
theorem d_X12_forge_231 : decode cX12_forge 231 = .ok (.ifCond .ne 12, 3) := by decide +kernel
theorem d_X12_forge_234 : decode cX12_forge 234 = .ok (.aload_n 0, 1) := by decide +kernel
theorem d_X12_forge_235 : decode cX12_forge 235 = .ok (.bipush 15, 2) := by decide +kernel
theorem d_X12_forge_237 : decode cX12_forge 237 = .ok (.invokevirtual 187, 3) := by decide +kernel
theorem d_X12_forge_240 : decode cX12_forge 240 = .ok (.goto 12, 3) := by decide +kernel
theorem d_X12_forge_243 : decode cX12_forge 243 = .ok (.aload_n 0, 1) := by decide +kernel
theorem d_X12_forge_244 : decode cX12_forge 244 = .ok (.sipush 1000, 3) := by decide +kernel
theorem d_X12_forge_247 : decode cX12_forge 247 = .ok (.iload_n 2, 1) := by decide +kernel
theorem d_X12_forge_248 : decode cX12_forge 248 = .ok (.idiv, 1) := by decide +kernel
theorem d_X12_forge_249 : decode cX12_forge 249 = .ok (.invokevirtual 191, 3) := by decide +kernel
theorem d_X12_forge_252 : decode cX12_forge 252 = .ok (.ireturn, 1) := by decide +kernel
theorem d_X12_forge_253 : decode cX12_forge 253 = .ok (.iload_n 2, 1) := by decide +kernel
theorem d_X12_forge_254 : decode cX12_forge 254 = .ok (.iconst 2, 1) := by decide +kernel
theorem d_X12_forge_255 : decode cX12_forge 255 = .ok (.invokestatic 351, 3) := by decide +kernel
theorem d_X12_forge_258 : decode cX12_forge 258 = .ok (.ifCond .ne 12, 3) := by decide +kernel
theorem d_X12_forge_261 : decode cX12_forge 261 = .ok (.aload_n 0, 1) := by decide +kernel
theorem d_X12_forge_262 : decode cX12_forge 262 = .ok (.bipush 10, 2) := by decide +kernel
theorem d_X12_forge_264 : decode cX12_forge 264 = .ok (.invokevirtual 187, 3) := by decide +kernel
theorem d_X12_forge_267 : decode cX12_forge 267 = .ok (.goto 8, 3) := by decide +kernel
theorem d_X12_forge_270 : decode cX12_forge 270 = .ok (.aload_n 0, 1) := by decide +kernel
theorem d_X12_forge_271 : decode cX12_forge 271 = .ok (.iconst 1, 1) := by decide +kernel
theorem d_X12_forge_272 : decode cX12_forge 272 = .ok (.invokevirtual 191, 3) := by decide +kernel
theorem d_X12_forge_275 : decode cX12_forge 275 = .ok (.ireturn, 1) := by decide +kernel
theorem d_X12_status_0 : decode cX12_status 0 = .ok (.aload_n 0, 1) := by decide +kernel
theorem d_X12_status_1 : decode cX12_status 1 = .ok (.getfield 167, 3) := by decide +kernel
theorem d_X12_status_4 : decode cX12_status 4 = .ok (.ireturn, 1) := by decide +kernel
end
section
/-! ===== the words that stay, and the nest words ===== -/
def isNestW : Cond → Bool
  | .fieldLinkNest .. => true
  | .methodLinkNest .. => true
  | _ => false
def TBg : List Cond := lw_tbl.filter goodWord
def TBn : List Cond := lw_tbl.filter isNestW
theorem tb_g (i : Nat) {w : Cond} (h : lw_tbl[i]? = some w) (hg : goodWord w = true) : w ∈ TBg := List.mem_filter.mpr ⟨List.mem_of_getElem? h, hg⟩
theorem tb_n (i : Nat) {w : Cond} (h : lw_tbl[i]? = some w) (hg : isNestW w = true) : w ∈ TBn := List.mem_filter.mpr ⟨List.mem_of_getElem? h, hg⟩
theorem tb_good {w : Cond} (h : w ∈ TBg) : GoodIn TBg (w :: TBg) := by
  intro x hx
  rcases List.mem_cons.mp hx with rfl | hx
  · exact ⟨h, good_of_word (List.mem_filter.mp h).2⟩
  · exact ⟨hx, good_of_word (List.mem_filter.mp hx).2⟩
theorem lays_good {C : String} {T : u_T} {N : Nat} (h : ∀ w ∈ u_ws C T N, w ∈ lw_tbl) : ∀ w ∈ u_ws C T N, w ∈ TBg := by
  intro w hw
  refine List.mem_filter.mpr ⟨h w hw, ?_⟩
  obtain ⟨k, -, rfl⟩ := List.mem_map.mp hw
  unfold u_lay
  split <;> rfl
theorem cl_in : ∀ (c : Nat) (q : vw_C), cl_[c]? = some q → ∀ w ∈ u_ws q.1 q.2.1 q.2.2, w ∈ TBg := by
  intro c q h
  match c, h with
  | 0, h => cases h; exact lays_good inX0
  | 1, h => cases h; exact lays_good inX1
  | 2, h => cases h; exact lays_good inX2
  | 3, h => cases h; exact lays_good inX3
  | 4, h => cases h; exact lays_good inX4
  | 5, h => cases h; exact lays_good inX5
  | 6, h => cases h; exact lays_good inX6
  | 7, h => cases h; exact lays_good inX7
  | 8, h => cases h; exact lays_good inX8
  | 9, h => cases h; exact lays_good inX9
  | 10, h => cases h; exact lays_good inX10
  | 11, h => cases h; exact lays_good inX11
  | 12, h => cases h; exact lays_good inX12
  | c + 13, h => simp [cl_] at h
theorem cl_nm : ∀ (c : Nat) (q : vw_C), cl_[c]? = some q → ∀ a, a < q.2.2 → ∀ b, b < q.2.2 → a ≠ b → (q.2.1 a).2.1 ≠ (q.2.1 b).2.1 := by
  intro c q h
  match c, h with
  | 0, h => cases h; exact nmX0
  | 1, h => cases h; exact nmX1
  | 2, h => cases h; exact nmX2
  | 3, h => cases h; exact nmX3
  | 4, h => cases h; exact nmX4
  | 5, h => cases h; exact nmX5
  | 6, h => cases h; exact nmX6
  | 7, h => cases h; exact nmX7
  | 8, h => cases h; exact nmX8
  | 9, h => cases h; exact nmX9
  | 10, h => cases h; exact nmX10
  | 11, h => cases h; exact nmX11
  | 12, h => cases h; exact nmX12
  | c + 13, h => simp [cl_] at h
theorem cl_ty : ∀ (c : Nat) (q : vw_C), cl_[c]? = some q → ∃ ty : Nat → FieldType, ∀ k, k < q.2.2 → parseFieldDescriptor (q.2.1 k).2.2.1 = some (ty k) := by
  intro c q h
  match c, h with
  | 0, h => cases h; exact ⟨_, tyX0_ok⟩
  | 1, h => cases h; exact ⟨_, tyX1_ok⟩
  | 2, h => cases h; exact ⟨_, tyX2_ok⟩
  | 3, h => cases h; exact ⟨_, tyX3_ok⟩
  | 4, h => cases h; exact ⟨_, tyX4_ok⟩
  | 5, h => cases h; exact ⟨_, tyX5_ok⟩
  | 6, h => cases h; exact ⟨_, tyX6_ok⟩
  | 7, h => cases h; exact ⟨_, tyX7_ok⟩
  | 8, h => cases h; exact ⟨_, tyX8_ok⟩
  | 9, h => cases h; exact ⟨_, tyX9_ok⟩
  | 10, h => cases h; exact ⟨_, tyX10_ok⟩
  | 11, h => cases h; exact ⟨_, tyX11_ok⟩
  | 12, h => cases h; exact ⟨_, tyX12_ok⟩
  | c + 13, h => simp [cl_] at h
/-! ===== the launch's fixed data, the abstract heap, what it says of the machine's ===== -/
/-- launch; where new cells begin, the two tables' cells, the script's cell; classes, their slots, the arrays' classes; the script's length and ints -/
abbrev Gl : Type := Launch × (Nat × Nat × Nat × Nat) × (Nat → ClassId) × (Nat → Nat → Nat) × (Nat → ClassId) × Nat × (Nat → Int32)
/-- ints by cell and place; references by cell and place; kind of a cell; length of an array; the next cell -/
abbrev Hp : Type := (Nat → Nat → Int32) × (Nat → Nat → Option Nat) × (Nat → Nat) × (Nat → Nat) × Nat
def gN (G : Gl) : Nat := G.2.1.1
def AA (G : Gl) : Nat → Prop := fun q => gN G ≤ q
def ad (G : Gl) : Nat → Nat
  | 0 => G.2.1.2.1
  | 1 => G.2.1.2.2.1
  | 2 => G.2.1.2.2.2
  | k + 3 => gN G + k
def cv (G : Gl) : Value → Value
  | .ref k => .ref (ad G k)
  | v => v
def rfv (o : Option Nat) : Value := match o with
  | none => .null
  | some k => .ref k
def rv (G : Gl) (o : Option Nat) : Value := match o with
  | none => .null
  | some k => .ref (ad G k)
theorem cv_rfv (G : Gl) (o : Option Nat) : cv G (rfv o) = rv G o := by cases o <;> rfl
theorem cv_cat (G : Gl) (v : Value) : (cv G v).category = v.category := by cases v <;> rfl
theorem ad_ge (G : Gl) {k : Nat} (h : 3 ≤ k) : ad G k = gN G + (k - 3) := by
  match k, h with
  | k + 3, _ => rfl
def isR (c j : Nat) : Bool := (isRt.getD c []).contains j
def zo (x : Int32) : Prop := x = 0 ∨ x = 1
def cE (G : Gl) (t n : Nat) (f : Nat → Int32) (r : Nat → Option Nat) (a : Nat) (H : Heap) : Prop :=
  (∃ (c : Nat) (q : vw_C), t = c + 1 ∧ cl_[c]? = some q ∧ t_OB a (G.2.2.1 c) q.2.2 (G.2.2.2.1 c) H (fun j => if isR c j = true then rv G (r j) else .int (f j)) ∧ (c = 7 → zo (f 4))) ∨
  (t = 20 ∧ H[a]? = some (arrV (G.2.2.2.2.1 0) n (fun j => .int (f j)))) ∨
  (t = 21 ∧ H[a]? = some (arrV (G.2.2.2.2.1 1) n (fun j => .int (f j))) ∧ ∀ j, j < n → zo (f j)) ∨
  (∃ c : Nat, t = c + 40 ∧ H[a]? = some (arrV (G.2.2.2.2.1 (c + 2)) n (fun j => rv G (r j))))
def HR (G : Gl) (h : Hp) (H : Heap) : Prop :=
  H.size + 3 = gN G + h.2.2.2.2 ∧ 3 ≤ h.2.2.2.2 ∧ ∀ k, h.2.2.1 k ≠ 0 → 3 ≤ k ∧ k < h.2.2.2.2 ∧ cE G (h.2.2.1 k) (h.2.2.2.1 k) (h.1 k) (h.2.1 k) (ad G k) H
theorem cl_len {c : Nat} {q : vw_C} (h : cl_[c]? = some q) : c < 13 := (List.getElem?_eq_some_iff.mp h).1
theorem cE.o {G : Gl} {c n : Nat} {f : Nat → Int32} {r : Nat → Option Nat} {a : Nat} {H : Heap} (hc : c < 13) (h : cE G (c + 1) n f r a H) : ∃ q : vw_C, cl_[c]? = some q ∧ t_OB a (G.2.2.1 c) q.2.2 (G.2.2.2.1 c) H (fun j => if isR c j = true then rv G (r j) else .int (f j)) := by
  rcases h with ⟨c', q, h1, h2, h3⟩ | ⟨h1, -⟩ | ⟨h1, -⟩ | ⟨c', h1, -⟩
  · obtain rfl : c = c' := by omega
    exact ⟨q, h2, h3.1⟩
  · omega
  · omega
  · omega
theorem cE.i {G : Gl} {n : Nat} {f : Nat → Int32} {r : Nat → Option Nat} {a : Nat} {H : Heap} (h : cE G 20 n f r a H) : H[a]? = some (arrV (G.2.2.2.2.1 0) n (fun j => .int (f j))) := by
  rcases h with ⟨c', q, h1, h2, h3⟩ | ⟨h1, h⟩ | ⟨h1, -⟩ | ⟨c', h1, -⟩
  · have := cl_len h2; omega
  · exact h
  · omega
  · omega
theorem cE.z {G : Gl} {n : Nat} {f : Nat → Int32} {r : Nat → Option Nat} {a : Nat} {H : Heap} (h : cE G 21 n f r a H) : H[a]? = some (arrV (G.2.2.2.2.1 1) n (fun j => .int (f j))) := by
  rcases h with ⟨c', q, h1, h2, h3⟩ | ⟨h1, -⟩ | ⟨h1, h⟩ | ⟨c', h1, -⟩
  · have := cl_len h2; omega
  · omega
  · exact h.1
  · omega
theorem cE.r {G : Gl} {c n : Nat} {f : Nat → Int32} {r : Nat → Option Nat} {a : Nat} {H : Heap} (h : cE G (c + 40) n f r a H) : H[a]? = some (arrV (G.2.2.2.2.1 (c + 2)) n (fun j => rv G (r j))) := by
  rcases h with ⟨c', q, h1, h2, h3⟩ | ⟨h1, -⟩ | ⟨h1, -⟩ | ⟨c', h1, h⟩
  · have := cl_len h2; omega
  · omega
  · omega
  · obtain rfl : c = c' := by omega
    exact h
theorem cE.kept {G : Gl} {t n : Nat} {f : Nat → Int32} {r : Nat → Option Nat} {a : Nat} {H H1 : Heap} (h : cE G t n f r a H) (e : H1[a]? = H[a]?) : cE G t n f r a H1 := by
  rcases h with ⟨c', q, h1, h2, h3⟩ | ⟨h1, h⟩ | ⟨h1, h⟩ | ⟨c', h1, h⟩
  · exact Or.inl ⟨c', q, h1, h2, h3.1.kept e, h3.2⟩
  · exact Or.inr (Or.inl ⟨h1, e.trans h⟩)
  · exact Or.inr (Or.inr (Or.inl ⟨h1, e.trans h.1, h.2⟩))
  · exact Or.inr (Or.inr (Or.inr ⟨c', h1, e.trans h⟩))
theorem cE.zall {G : Gl} {n : Nat} {f : Nat → Int32} {r : Nat → Option Nat} {a : Nat} {H : Heap} (h : cE G 21 n f r a H) : ∀ j, j < n → zo (f j) := by
  rcases h with ⟨c', q, h1, h2, h3⟩ | ⟨h1, -⟩ | ⟨h1, h⟩ | ⟨c', h1, -⟩
  · have := cl_len h2; omega
  · omega
  · exact h.2
  · omega
theorem cE.oz {G : Gl} {c n : Nat} {f : Nat → Int32} {r : Nat → Option Nat} {a : Nat} {H : Heap} (h : cE G (c + 1) n f r a H) : c = 7 → zo (f 4) := by
  rcases h with ⟨c', q, h1, h2, h3⟩ | ⟨h1, -⟩ | ⟨h1, -⟩ | ⟨c', h1, -⟩
  · obtain rfl : c = c' := by omega
    exact h3.2
  · intro e; omega
  · intro e; omega
  · intro e; omega
/-- one cell is written, the others stay -/
theorem HR.put {G : Gl} {h h' : Hp} {H H1 : Heap} {k : Nat} (hH : HR G h H) (hk : 3 ≤ k) (hz : H1.size = H.size) (oq : ∀ q, q ≠ ad G k → H1[q]? = H[q]?)
    (h1 : h'.2.2 = h.2.2) (h2 : ∀ j, j ≠ k → h'.1 j = h.1 j ∧ h'.2.1 j = h.2.1 j) (hc : cE G (h.2.2.1 k) (h.2.2.2.1 k) (h'.1 k) (h'.2.1 k) (ad G k) H1) : HR G h' H1 := by
  obtain ⟨a1, a2, a3⟩ := hH
  refine ⟨by rw [hz, h1]; exact a1, by rw [h1]; exact a2, fun j hj => ?_⟩
  rw [h1] at hj ⊢
  obtain ⟨b1, b2, b3⟩ := a3 j hj
  refine ⟨b1, b2, ?_⟩
  by_cases hjk : j = k
  · subst hjk
    exact hc
  · rw [(h2 j hjk).1, (h2 j hjk).2]
    refine b3.kept (oq _ fun e => hjk ?_)
    rw [ad_ge G b1, ad_ge G hk] at e
    omega
/-- a cell is made -/
theorem HR.new {G : Gl} {h h' : Hp} {H H1 : Heap} (hH : HR G h H) (hz : H1.size = H.size + 1) (oq : ∀ q, q < H.size → H1[q]? = H[q]?) (hn : h'.2.2.2.2 = h.2.2.2.2 + 1)
    (h2 : ∀ j, j ≠ h.2.2.2.2 → h'.1 j = h.1 j ∧ h'.2.1 j = h.2.1 j ∧ h'.2.2.1 j = h.2.2.1 j ∧ h'.2.2.2.1 j = h.2.2.2.1 j)
    (hc : cE G (h'.2.2.1 h.2.2.2.2) (h'.2.2.2.1 h.2.2.2.2) (h'.1 h.2.2.2.2) (h'.2.1 h.2.2.2.2) H.size H1) : HR G h' H1 := by
  obtain ⟨a1, a2, a3⟩ := hH
  refine ⟨by omega, by omega, fun j hj => ?_⟩
  by_cases hjk : j = h.2.2.2.2
  · subst hjk
    refine ⟨a2, by omega, ?_⟩
    rw [show ad G h.2.2.2.2 = H.size by rw [ad_ge G a2]; omega]
    exact hc
  · obtain ⟨c1, c2, c3, c4⟩ := h2 j hjk
    rw [c3] at hj
    rw [c1, c2, c3, c4]
    obtain ⟨b1, b2, b3⟩ := a3 j hj
    refine ⟨b1, by omega, b3.kept (oq _ ?_)⟩
    rw [ad_ge G b1]
    omega
theorem HR.zall {G : Gl} {h : Hp} {H : Heap} (hH : HR G h H) {k j : Nat} (hT : h.2.2.1 k = 21) (hj : j < h.2.2.2.1 k) : zo (h.1 k j) := by
  have k3 := (hH.2.2 k (by rw [hT]; decide)).2.2
  rw [hT] at k3
  exact k3.zall j hj
theorem HR.z7 {G : Gl} {h : Hp} {H : Heap} (hH : HR G h H) {k : Nat} (hT : h.2.2.1 k = 8) : zo (h.1 k 4) := by
  have k3 := (hH.2.2 k (by rw [hT]; decide)).2.2
  rw [hT] at k3
  exact cE.oz (c := 7) k3 rfl
theorem HR.nx {G : Gl} {h : Hp} {H : Heap} (hH : HR G h H) : H.size = ad G h.2.2.2.2 := by
  rw [ad_ge G hH.2.1]
  have := hH.1
  have := hH.2.1
  omega
/-! ===== what is known of the classes, of the statics, of the script ===== -/
def arrCs : List Nat := [1, 2, 3, 5, 6, 7, 8]
def KK (G : Gl) (U : State) : Prop :=
  (∀ (c : Nat) (q : vw_C), cl_[c]? = some q → u_Kn U q.1 q.2.1 q.2.2 (G.2.2.1 c) (G.2.2.2.1 c)) ∧ (ArrOfT U (G.2.2.2.2.1 0) .int ∧ va_RA U (G.2.2.2.2.1 0) .int) ∧ (ArrOfT U (G.2.2.2.2.1 1) .boolean ∧ va_RA U (G.2.2.2.2.1 1) .boolean) ∧
  (∀ c ∈ arrCs, ∀ q : vw_C, cl_[c]? = some q → ArrOfT U (G.2.2.2.2.1 (c + 2)) (.object q.1) ∧ va_RA U (G.2.2.2.2.1 (c + 2)) (.object q.1) ∧ va_AO q.1 U) ∧ ∀ w ∈ TBn, va_Nw w U
theorem nw_warm {w : Cond} (hw : w ∈ TBn) {s U : State} (hW : s.WarmedH U.vm) (h : va_Nw w s) : va_Nw w U := by
  have hn := (List.mem_filter.mp hw).2
  cases w <;> first | (cases hn; done) | exact va_Nw.warmF hW h | exact va_Nw.warmM hW h
theorem nw_vm {w : Cond} (hw : w ∈ TBn) {s U : State} (hv : s.vm = U.vm) (h : va_Nw w s) : va_Nw w U := by
  have hn := (List.mem_filter.mp hw).2
  cases w <;> first | (cases hn; done) | exact va_Nw.same rfl hv h
theorem KK.warm {G : Gl} {s U : State} (hW : s.WarmedH U.vm) (h : KK G s) : KK G U := by
  obtain ⟨h1, h2, h3, h4, h5⟩ := h
  have A := hW.alike
  exact ⟨fun c q hq => u_Kn_moved A (h1 c q hq), ⟨arrOfT_moved A h2.1, h2.2.moved A⟩, ⟨arrOfT_moved A h3.1, h3.2.moved A⟩, fun c hc q hq => ⟨arrOfT_moved A (h4 c hc q hq).1, (h4 c hc q hq).2.1.moved A, (h4 c hc q hq).2.2.moved A⟩, fun w hw => nw_warm hw hW (h5 w hw)⟩
theorem KK.vm {G : Gl} {s U : State} (hv : s.vm = U.vm) (h : KK G s) : KK G U := by
  obtain ⟨h1, h2, h3, h4, h5⟩ := h
  have A : s.vm.Alike U.vm := by rw [hv]; exact Vm.Alike.refl _
  exact ⟨fun c q hq => u_Kn_moved A (h1 c q hq), ⟨arrOfT_moved A h2.1, h2.2.moved A⟩, ⟨arrOfT_moved A h3.1, h3.2.moved A⟩, fun c hc q hq => ⟨arrOfT_moved A (h4 c hc q hq).1, (h4 c hc q hq).2.1.moved A, (h4 c hc q hq).2.2.moved A⟩, fun w hw => nw_vm hw hv (h5 w hw)⟩
def kaT : List Int32 := [-1, 0, 0, 1, 0, 0]
def boT : List Int32 := [10, 11, 12, 13, 20, 0, 0, 21, 0, 30, 0, 0, 41, 0, 40, 0, 0, 50, 51, 0, 0, 0, 0, 60]
def SF (G : Gl) (U : State) (H : Heap) : Prop :=
  va_Z "RiverSteamers" "KIND_ABOVE" "[I" (.ref (ad G 0)) (AA G) U H ∧ va_Z "RiverSteamers$Acts" "BODIES" "[I" (.ref (ad G 1)) (AA G) U H ∧
  va_T .int (ad G 0) 6 (fun j => .int (kaT.getD j 0)) (AA G) U H ∧ va_T .int (ad G 1) 24 (fun j => .int (boT.getD j 0)) (AA G) U H ∧
  va_X (ad G 2) G.2.2.2.2.2.1 G.2.2.2.2.2.2 U H ∧ ad G 2 < gN G
theorem SF.moved {G : Gl} {s U : State} {H : Heap} (hA : s.vm.Alike U.vm) (h : SF G s H) : SF G U H := by
  obtain ⟨h1, h2, h3, h4, h5, h6⟩ := h
  exact ⟨h1.moved hA, h2.moved hA, h3.moved hA, h4.moved hA, h5.moved hA, h6⟩
theorem SF.kept {G : Gl} {U : State} {H H1 : Heap} (h : SF G U H) (hN : gN G ≤ H.size) (hq : ∀ a : Nat, a < H.size → ¬ AA G a → H1[a]? = H[a]?) : SF G U H1 := by
  obtain ⟨h1, h2, h3, h4, h5, h6⟩ := h
  exact ⟨h1.kept hq, h2.kept hq, h3.kept hq, h4.kept hq, h5.kept (hq _ (Nat.lt_of_lt_of_le h6 hN) (Nat.not_le.mpr h6)), h6⟩
end
section
/-! ===== the judgement V: from this place of this method, with these locals, this stack, this heap, the method comes to its end ===== -/
def Cx (G : Gl) (Y : MI) (p : Program) (s : State) (m : MethodId) (args : Array Value) (meth : Method) (c : Code) : Prop :=
  p.tables.exec = Jvm.exec ∧ c.code = Y.2.1 ∧ c.maxLocals = Y.2.2.1 ∧ meth.sig.returnType = Y.2.2.2 ∧ meth.locks = false ∧ meth.name = Y.1.name ∧ s.vm.findClass Y.1.cls = some m.cls ∧
  (∀ w ∈ TBg, w.before args s = true) ∧ KK G s ∧ SF G s s.heap ∧ gN G ≤ s.heap.size
def pr (G : Gl) : List (Option Value) → Nat → List (Nat × Value)
  | [], _ => []
  | none :: l, i => pr G l (i + 1)
  | some v :: l, i => if v.category = 1 then (i, cv G v) :: pr G l (i + 1) else pr G l (i + 1)
theorem pr_mem {G : Gl} : ∀ {L : List (Option Value)} {i : Nat} {q : Nat × Value}, q ∈ pr G L i ↔ ∃ k v, L[k]? = some (some v) ∧ q.1 = i + k ∧ v.category = 1 ∧ q.2 = cv G v
  | [], i, q => by simp [pr]
  | none :: l, i, q => by
    rw [pr, pr_mem]
    constructor
    · rintro ⟨k, v, h1, h2, h3⟩
      exact ⟨k + 1, v, by simpa using h1, by omega, h3⟩
    · rintro ⟨k, v, h1, h2, h3⟩
      match k, h1, h2 with
      | 0, h1, h2 => simp at h1
      | k + 1, h1, h2 => exact ⟨k, v, by simpa using h1, by omega, h3⟩
  | some w :: l, i, q => by
    rw [pr]
    by_cases hw : w.category = 1
    · rw [if_pos hw, List.mem_cons, pr_mem]
      constructor
      · rintro (rfl | ⟨k, v, h1, h2, h3⟩)
        · exact ⟨0, w, rfl, rfl, hw, rfl⟩
        · exact ⟨k + 1, v, by simpa using h1, by omega, h3⟩
      · rintro ⟨k, v, h1, h2, h3, h4⟩
        match k, h1, h2 with
        | 0, h1, h2 =>
          left
          simp at h1
          subst h1
          exact Prod.ext h2 h4
        | k + 1, h1, h2 => exact Or.inr ⟨k, v, by simpa using h1, by omega, h3, h4⟩
    · rw [if_neg hw, pr_mem]
      constructor
      · rintro ⟨k, v, h1, h2, h3⟩
        exact ⟨k + 1, v, by simpa using h1, by omega, h3⟩
      · rintro ⟨k, v, h1, h2, h3, h4⟩
        match k, h1, h2 with
        | 0, h1, h2 =>
          simp at h1
          subst h1
          exact absurd h3 hw
        | k + 1, h1, h2 => exact ⟨k, v, by simpa using h1, by omega, h3, h4⟩
theorem pr_at {G : Gl} {ls : Array Slot} {n : Nat} {L : List (Option Value)} {i : Nat} {v : Value} (h : lv_has ls n (pr G L 0)) (hl : L[i]? = some (some v)) (hc : v.category = 1) : ls[i]? = some (.val (cv G v)) :=
  h.2.2 (i, cv G v) (pr_mem.mpr ⟨i, v, hl, by simp, hc, rfl⟩)
theorem pr_set {G : Gl} {ls : Array Slot} {n : Nat} {L : List (Option Value)} {i : Nat} {v : Value} {w : Value} (hw : w = cv G v)
    (h : lv_has ls n ((i, w) :: (pr G L 0).filter (fun q => !(q.1 == i) && !(q.1 + 1 == i && q.2.category == 2)))) : lv_has ls n (pr G (L.set i (some v)) 0) := by
  refine ⟨h.1, h.2.1, fun q hq => h.2.2 q ?_⟩
  obtain ⟨k, u, h1, h2, h3, h4⟩ := pr_mem.mp hq
  rw [Nat.zero_add] at h2
  by_cases hk : k = i
  · subst hk
    have hlt : k < L.length := by
      have := (List.getElem?_eq_some_iff.mp h1).1
      simpa using this
    rw [List.getElem?_set_self hlt] at h1
    cases h1
    exact List.mem_cons.mpr (Or.inl (Prod.ext h2 (h4.trans hw.symm)))
  · rw [List.getElem?_set_ne (Ne.symm hk)] at h1
    refine List.mem_cons.mpr (Or.inr (List.mem_filter.mpr ⟨pr_mem.mpr ⟨k, u, h1, by simpa using h2, h3, h4⟩, ?_⟩))
    have e1 : (q.1 == i) = false := by rw [h2]; simpa using hk
    have e2 : (q.2.category == 2) = false := by rw [h4, cv_cat, h3]; rfl
    simp [e1, e2]
abbrev Fn : Type := State → List Frame → Array Value → State → Prop
def V (G : Gl) (Y : MI) (R : Room) (F : Fn) (gc gs pc : Nat) (L : List (Option Value)) (S : List Value) (h : Hp) : Prop :=
  ∀ (p : Program) (e : Env) (s : State) (m : MethodId) (args : Array Value) (below : List Frame) (meth : Method) (c : Code), Cx G Y p s m args meth c →
    ∀ (H : Heap) (locs : List Loc) (ls : Array Slot), va_S (AA G) s.heap H locs → HR G h H → lv_has ls Y.2.2.1 (pr G L 0) →
      W p G.1 e R s m args below meth c H locs gc gs (F s below args) (F0 m pc ls (S.map (cv G)))
def Qc (G : Gl) (Q : Option Value → Hp → Prop) : Array Value → State → Outcome → State → Prop := fun _ st o t =>
  (∃ (v : Option Value) (h' : Hp), o = .returned (v.map (cv G)) ∧ Q v h' ∧ HR G h' t.heap) ∧ va_F (AA G) st t
def FM (G : Gl) (R : Room) (Q : Option Value → Hp → Prop) : Fn := fun s below args => MQ below (Qc G Q) args s R.cells R.slots (AA G)
def Pc (G : Gl) (as : List Value) (h : Hp) : Array Value → State → Prop := fun v U => v = (as.map (cv G)).toArray ∧ HR G h U.heap ∧ KK G U ∧ SF G U U.heap ∧ gN G ≤ U.heap.size
def wsy (Y : MI) : List Cond := .code Y.1 Y.2.1 Y.2.2.1 Y.2.2.2 :: TBg
/-- the contract: called with these arguments over this heap, the method returns an answer and a heap with Q -/
def CM (G : Gl) (Y : MI) (R : Room) (as : List Value) (h : Hp) (Q : Option Value → Hp → Prop) : Prop := Met G.1 Y.1 (wsy Y) R (Pc G as h) (Qc G Q) R.cells R.slots (AA G)
def enL (as : List Value) (n : Nat) : List (Option Value) := as.map some ++ List.replicate (n - as.length) none
theorem en_args {G : Gl} : ∀ (as : List Value) (i : Nat), (∀ v ∈ as, v.category = 1) → ∀ (m : Nat), pr G (as.map some ++ List.replicate m none) i = lv_args i (as.map (cv G))
  | [], i, _, m => by
    show pr G (List.replicate m none) i = []
    induction m generalizing i with
    | zero => rfl
    | succ m ih => exact ih (i + 1)
  | v :: as, i, h, m => by
    have hv := h v List.mem_cons_self
    show pr G (some v :: (as.map some ++ List.replicate m none)) i = (i, cv G v) :: lv_args (if (cv G v).category = 2 then i + 2 else i + 1) (as.map (cv G))
    rw [pr, if_pos hv, cv_cat, hv, if_neg (by decide), en_args as (i + 1) (fun w hw => h w (List.mem_cons_of_mem _ hw)) m]
theorem sl_len {G : Gl} : ∀ (as : List Value), (∀ v ∈ as, v.category = 1) → (lg_sl (as.map (cv G))).length = as.length
  | [], _ => rfl
  | v :: as, h => by
    have hv := h v List.mem_cons_self
    have ih := sl_len (G := G) as (fun w hw => h w (List.mem_cons_of_mem _ hw))
    show (lg_sl (cv G v :: as.map (cv G))).length = as.length + 1
    rw [← ih]
    simp [lg_sl, cv_cat, hv]
theorem CM.of {G : Gl} {Y : MI} {R : Room} {as : List Value} {h : Hp} {Q : Option Value → Hp → Prop} (hp : plainName Y.1.cls = true) (hn : as.length ≤ Y.2.2.1) (hc : ∀ v ∈ as, v.category = 1)
    (hV : V G Y R (FM G R Q) 0 0 0 (enL as Y.2.2.1) [] h) : CM G Y R as h Q := by
  refine Met.ofW (cc := Y.2.1) (maxL := Y.2.2.1) (ret := Y.2.2.2) hp rfl ?_
  intro p e s m args below meth c s₁ B hml hv
  obtain ⟨rfl, hH, hK, hS, hN⟩ := hv
  have hts := atoms_spec (ws := wsy Y) B.pre
  rw [lg_entry_eq]
  have hl := lv_entry (as.map (cv G)) (n := Y.2.2.1) (by rw [sl_len as hc]; exact hn)
  rw [← en_args as 0 hc (Y.2.2.1 - as.length)] at hl
  exact hV p e s m _ below meth c ⟨B.exec, B.bytes, hml, B.returns, B.notSynchronized, (name_of_methodNamed B.named B.method).1, findClass_of_methodNamed B.named, fun w hw => hts w (List.mem_cons_of_mem _ hw), hK, hS, hN⟩ s.heap [] _ va_S.rf hH hl
theorem Pc.blind {G : Gl} {as : List Value} {h : Hp} : FrameBlind (Pc G as h) := by
  intro a U g mk q
  obtain ⟨q1, q2, q3, q4, q5⟩ := q
  exact ⟨q1, q2, KK.vm (s := U) rfl q3, q4.moved (Vm.Alike.refl U.vm), q5⟩
end
section
section RV
variable {G : Gl} {Y : MI} {R : Room} {F : Fn} {gc gs pc : Nat} {L : List (Option Value)} {S : List Value} {h : Hp}
theorem V_iconst {n : Int} (v : Int32) (hd : decode Y.2.1 pc = .ok (.iconst n, 1)) (hv : Int32.ofInt n = v) (K : V G Y R F gc gs (pc + 1) L (.int v :: S) h) : V G Y R F gc gs pc L S h := by
  intro p e s m args below meth c C H locs ls hS hH hl
  exact lv_iconst C.1 C.2.1 hd hv (K p e s m args below meth c C H locs ls hS hH hl)
theorem V_bipush {n : Int} (v : Int32) (hd : decode Y.2.1 pc = .ok (.bipush n, 2)) (hv : (Int8.ofInt n).toInt32 = v) (K : V G Y R F gc gs (pc + 2) L (.int v :: S) h) : V G Y R F gc gs pc L S h := by
  intro p e s m args below meth c C H locs ls hS hH hl
  exact lv_bipush C.1 C.2.1 hd hv (K p e s m args below meth c C H locs ls hS hH hl)
theorem V_sipush {n : Int} (v : Int32) (hd : decode Y.2.1 pc = .ok (.sipush n, 3)) (hv : (Int16.ofInt n).toInt32 = v) (K : V G Y R F gc gs (pc + 3) L (.int v :: S) h) : V G Y R F gc gs pc L S h := by
  intro p e s m args below meth c C H locs ls hS hH hl
  exact lv_sipush C.1 C.2.1 hd hv (K p e s m args below meth c C H locs ls hS hH hl)
theorem V_iload_n {k : Fin 4} {x : Int32} (hd : decode Y.2.1 pc = .ok (.iload_n k, 1)) (hL : L[(k : Nat)]? = some (some (.int x))) (K : V G Y R F gc gs (pc + 1) L (.int x :: S) h) : V G Y R F gc gs pc L S h := by
  intro p e s m args below meth c C H locs ls hS hH hl
  exact lv_iload_n C.1 C.2.1 hd rfl (pr_at hl hL rfl) (K p e s m args below meth c C H locs ls hS hH hl)
theorem V_aload_n {k : Fin 4} {x : Nat} (hd : decode Y.2.1 pc = .ok (.aload_n k, 1)) (hL : L[(k : Nat)]? = some (some (.ref x))) (K : V G Y R F gc gs (pc + 1) L (.ref x :: S) h) : V G Y R F gc gs pc L S h := by
  intro p e s m args below meth c C H locs ls hS hH hl
  exact lv_aload_n C.1 C.2.1 hd rfl (pr_at hl hL rfl) (K p e s m args below meth c C H locs ls hS hH hl)
theorem V_aload_nN {k : Fin 4} (hd : decode Y.2.1 pc = .ok (.aload_n k, 1)) (hL : L[(k : Nat)]? = some (some (.null))) (K : V G Y R F gc gs (pc + 1) L (.null :: S) h) : V G Y R F gc gs pc L S h := by
  intro p e s m args below meth c C H locs ls hS hH hl
  exact lv_aload_nN C.1 C.2.1 hd rfl (pr_at hl hL rfl) (K p e s m args below meth c C H locs ls hS hH hl)
theorem V_iload {i : Nat} {x : Int32} (hd : decode Y.2.1 pc = .ok (.iload i, 2)) (hL : L[i]? = some (some (.int x))) (K : V G Y R F gc gs (pc + 2) L (.int x :: S) h) : V G Y R F gc gs pc L S h := by
  intro p e s m args below meth c C H locs ls hS hH hl
  exact lv_iload C.1 C.2.1 hd (pr_at hl hL rfl) (K p e s m args below meth c C H locs ls hS hH hl)
theorem V_aload {i : Nat} {x : Nat} (hd : decode Y.2.1 pc = .ok (.aload i, 2)) (hL : L[i]? = some (some (.ref x))) (K : V G Y R F gc gs (pc + 2) L (.ref x :: S) h) : V G Y R F gc gs pc L S h := by
  intro p e s m args below meth c C H locs ls hS hH hl
  exact lv_aload C.1 C.2.1 hd (pr_at hl hL rfl) (K p e s m args below meth c C H locs ls hS hH hl)
theorem V_aloadN {i : Nat} (hd : decode Y.2.1 pc = .ok (.aload i, 2)) (hL : L[i]? = some (some (.null))) (K : V G Y R F gc gs (pc + 2) L (.null :: S) h) : V G Y R F gc gs pc L S h := by
  intro p e s m args below meth c C H locs ls hS hH hl
  exact lv_aloadN C.1 C.2.1 hd (pr_at hl hL rfl) (K p e s m args below meth c C H locs ls hS hH hl)
theorem V_istore_n {k : Fin 4} {x : Int32} (hd : decode Y.2.1 pc = .ok (.istore_n k, 1)) (hn : (k : Nat) < Y.2.2.1) (K : V G Y R F gc gs (pc + 1) (L.set (k : Nat) (some (.int x))) S h) : V G Y R F gc gs pc L (.int x :: S) h := by
  intro p e s m args below meth c C H locs ls hS hH hl
  exact lv_istore_n C.1 C.2.1 hd rfl hl hn rfl (fun ls' hl' => K p e s m args below meth c C H locs ls' hS hH (pr_set rfl hl'))
theorem V_astore_n {k : Fin 4} {x : Nat} (hd : decode Y.2.1 pc = .ok (.astore_n k, 1)) (hn : (k : Nat) < Y.2.2.1) (K : V G Y R F gc gs (pc + 1) (L.set (k : Nat) (some (.ref x))) S h) : V G Y R F gc gs pc L (.ref x :: S) h := by
  intro p e s m args below meth c C H locs ls hS hH hl
  exact lv_astore_n C.1 C.2.1 hd rfl hl hn rfl (fun ls' hl' => K p e s m args below meth c C H locs ls' hS hH (pr_set rfl hl'))
theorem V_astore_nN {k : Fin 4} (hd : decode Y.2.1 pc = .ok (.astore_n k, 1)) (hn : (k : Nat) < Y.2.2.1) (K : V G Y R F gc gs (pc + 1) (L.set (k : Nat) (some (.null))) S h) : V G Y R F gc gs pc L (.null :: S) h := by
  intro p e s m args below meth c C H locs ls hS hH hl
  exact lv_astore_nN C.1 C.2.1 hd rfl hl hn rfl (fun ls' hl' => K p e s m args below meth c C H locs ls' hS hH (pr_set rfl hl'))
theorem V_istore {i : Nat} {x : Int32} (hd : decode Y.2.1 pc = .ok (.istore i, 2)) (hn : i < Y.2.2.1) (K : V G Y R F gc gs (pc + 2) (L.set i (some (.int x))) S h) : V G Y R F gc gs pc L (.int x :: S) h := by
  intro p e s m args below meth c C H locs ls hS hH hl
  exact lv_istore C.1 C.2.1 hd hl hn rfl (fun ls' hl' => K p e s m args below meth c C H locs ls' hS hH (pr_set rfl hl'))
theorem V_astore {i : Nat} {x : Nat} (hd : decode Y.2.1 pc = .ok (.astore i, 2)) (hn : i < Y.2.2.1) (K : V G Y R F gc gs (pc + 2) (L.set i (some (.ref x))) S h) : V G Y R F gc gs pc L (.ref x :: S) h := by
  intro p e s m args below meth c C H locs ls hS hH hl
  exact lv_astore C.1 C.2.1 hd hl hn rfl (fun ls' hl' => K p e s m args below meth c C H locs ls' hS hH (pr_set rfl hl'))
theorem V_astoreN {i : Nat} (hd : decode Y.2.1 pc = .ok (.astore i, 2)) (hn : i < Y.2.2.1) (K : V G Y R F gc gs (pc + 2) (L.set i (some (.null))) S h) : V G Y R F gc gs pc L (.null :: S) h := by
  intro p e s m args below meth c C H locs ls hS hH hl
  exact lv_astoreN C.1 C.2.1 hd hl hn rfl (fun ls' hl' => K p e s m args below meth c C H locs ls' hS hH (pr_set rfl hl'))
theorem V_iinc {i : Nat} {n : Int} {x : Int32} (hd : decode Y.2.1 pc = .ok (.iinc i n, 3)) (hL : L[i]? = some (some (.int x))) (hn : i < Y.2.2.1) (K : V G Y R F gc gs (pc + 3) (L.set i (some (.int (x + Int32.ofInt n)))) S h) : V G Y R F gc gs pc L S h := by
  intro p e s m args below meth c C H locs ls hS hH hl
  obtain ⟨k, hk⟩ := List.getElem?_of_mem (pr_mem (G := G) (i := 0) (q := (i, Value.int x)) |>.mpr ⟨i, _, hL, by simp, rfl, rfl⟩)
  exact lv_iinc C.1 C.2.1 hd hl hk rfl hn rfl (fun ls' hl' => K p e s m args below meth c C H locs ls' hS hH (pr_set rfl hl'))
theorem V_iadd {x y : Int32} (hd : decode Y.2.1 pc = .ok (.iadd, 1)) (K : V G Y R F gc gs (pc + 1) L (.int (x + y) :: S) h) : V G Y R F gc gs pc L (.int y :: .int x :: S) h := by
  intro p e s m args below meth c C H locs ls hS hH hl
  exact lv_iadd C.1 C.2.1 hd (K p e s m args below meth c C H locs ls hS hH hl)
theorem V_isub {x y : Int32} (hd : decode Y.2.1 pc = .ok (.isub, 1)) (K : V G Y R F gc gs (pc + 1) L (.int (x - y) :: S) h) : V G Y R F gc gs pc L (.int y :: .int x :: S) h := by
  intro p e s m args below meth c C H locs ls hS hH hl
  exact lv_isub C.1 C.2.1 hd (K p e s m args below meth c C H locs ls hS hH hl)
theorem V_imul {x y : Int32} (hd : decode Y.2.1 pc = .ok (.imul, 1)) (K : V G Y R F gc gs (pc + 1) L (.int (x * y) :: S) h) : V G Y R F gc gs pc L (.int y :: .int x :: S) h := by
  intro p e s m args below meth c C H locs ls hS hH hl
  exact lv_imul C.1 C.2.1 hd (K p e s m args below meth c C H locs ls hS hH hl)
theorem V_iand {x y : Int32} (hd : decode Y.2.1 pc = .ok (.iand, 1)) (K : V G Y R F gc gs (pc + 1) L (.int (x &&& y) :: S) h) : V G Y R F gc gs pc L (.int y :: .int x :: S) h := by
  intro p e s m args below meth c C H locs ls hS hH hl
  exact lv_iand C.1 C.2.1 hd (K p e s m args below meth c C H locs ls hS hH hl)
theorem V_ior {x y : Int32} (hd : decode Y.2.1 pc = .ok (.ior, 1)) (K : V G Y R F gc gs (pc + 1) L (.int (x ||| y) :: S) h) : V G Y R F gc gs pc L (.int y :: .int x :: S) h := by
  intro p e s m args below meth c C H locs ls hS hH hl
  exact lv_ior C.1 C.2.1 hd (K p e s m args below meth c C H locs ls hS hH hl)
theorem V_ixor {x y : Int32} (hd : decode Y.2.1 pc = .ok (.ixor, 1)) (K : V G Y R F gc gs (pc + 1) L (.int (x ^^^ y) :: S) h) : V G Y R F gc gs pc L (.int y :: .int x :: S) h := by
  intro p e s m args below meth c C H locs ls hS hH hl
  exact lv_ixor C.1 C.2.1 hd (K p e s m args below meth c C H locs ls hS hH hl)
theorem V_ishl {x y : Int32} (hd : decode Y.2.1 pc = .ok (.ishl, 1)) (K : V G Y R F gc gs (pc + 1) L (.int (x <<< (y &&& 31)) :: S) h) : V G Y R F gc gs pc L (.int y :: .int x :: S) h := by
  intro p e s m args below meth c C H locs ls hS hH hl
  exact lv_ishl C.1 C.2.1 hd (K p e s m args below meth c C H locs ls hS hH hl)
theorem V_ishr {x y : Int32} (hd : decode Y.2.1 pc = .ok (.ishr, 1)) (K : V G Y R F gc gs (pc + 1) L (.int (x >>> (y &&& 31)) :: S) h) : V G Y R F gc gs pc L (.int y :: .int x :: S) h := by
  intro p e s m args below meth c C H locs ls hS hH hl
  exact lv_ishr C.1 C.2.1 hd (K p e s m args below meth c C H locs ls hS hH hl)
theorem V_idiv {x y : Int32} (hd : decode Y.2.1 pc = .ok (.idiv, 1)) (hne : ¬ y = 0) (K : V G Y R F gc gs (pc + 1) L (.int (x / y) :: S) h) : V G Y R F gc gs pc L (.int y :: .int x :: S) h := by
  intro p e s m args below meth c C H locs ls hS hH hl
  exact lv_idiv C.1 C.2.1 hd hne (K p e s m args below meth c C H locs ls hS hH hl)
theorem V_irem {x y : Int32} (hd : decode Y.2.1 pc = .ok (.irem, 1)) (hne : ¬ y = 0) (K : V G Y R F gc gs (pc + 1) L (.int (x - x / y * y) :: S) h) : V G Y R F gc gs pc L (.int y :: .int x :: S) h := by
  intro p e s m args below meth c C H locs ls hS hH hl
  exact lv_irem C.1 C.2.1 hd hne (K p e s m args below meth c C H locs ls hS hH hl)
theorem V_ineg {x : Int32} (hd : decode Y.2.1 pc = .ok (.ineg, 1)) (K : V G Y R F gc gs (pc + 1) L (.int (-x) :: S) h) : V G Y R F gc gs pc L (.int x :: S) h := by
  intro p e s m args below meth c C H locs ls hS hH hl
  exact lv_ineg C.1 C.2.1 hd (K p e s m args below meth c C H locs ls hS hH hl)
theorem V_i2b {x : Int32} (hd : decode Y.2.1 pc = .ok (.i2b, 1)) (K : V G Y R F gc gs (pc + 1) L (.int x.toInt8.toInt32 :: S) h) : V G Y R F gc gs pc L (.int x :: S) h := by
  intro p e s m args below meth c C H locs ls hS hH hl
  exact lv_i2b C.1 C.2.1 hd rfl (K p e s m args below meth c C H locs ls hS hH hl)
theorem V_iushr {x y : Int32} (hd : decode Y.2.1 pc = .ok (.iushr, 1)) (K : V G Y R F gc gs (pc + 1) L (.int (x.toUInt32 >>> (y.toUInt32 &&& Int32.toUInt32 31)).toInt32 :: S) h) : V G Y R F gc gs pc L (.int y :: .int x :: S) h := by
  intro p e s m args below meth c C H locs ls hS hH hl
  exact lv_iushr C.1 C.2.1 hd rfl (K p e s m args below meth c C H locs ls hS hH hl)
theorem V_dup {v : Value} (hd : decode Y.2.1 pc = .ok (.dup, 1)) (hv : v.category = 1) (K : V G Y R F gc gs (pc + 1) L (v :: v :: S) h) : V G Y R F gc gs pc L (v :: S) h := by
  intro p e s m args below meth c C H locs ls hS hH hl
  exact lv_dup C.1 C.2.1 hd ((cv_cat G v).trans hv) (K p e s m args below meth c C H locs ls hS hH hl)
theorem V_dup_x1 {v w : Value} (hd : decode Y.2.1 pc = .ok (.dup_x1, 1)) (hv : v.category = 1) (hw : w.category = 1) (K : V G Y R F gc gs (pc + 1) L (v :: w :: v :: S) h) : V G Y R F gc gs pc L (v :: w :: S) h := by
  intro p e s m args below meth c C H locs ls hS hH hl
  exact lv_dup_x1 C.1 C.2.1 hd ((cv_cat G v).trans hv) ((cv_cat G w).trans hw) (K p e s m args below meth c C H locs ls hS hH hl)
theorem V_dup2 {v w : Value} (hd : decode Y.2.1 pc = .ok (.dup2, 1)) (hv : v.category = 1) (hw : w.category = 1) (K : V G Y R F gc gs (pc + 1) L (v :: w :: v :: w :: S) h) : V G Y R F gc gs pc L (v :: w :: S) h := by
  intro p e s m args below meth c C H locs ls hS hH hl
  exact lv_dup2_11 C.1 C.2.1 hd ((cv_cat G v).trans hv) ((cv_cat G w).trans hw) (K p e s m args below meth c C H locs ls hS hH hl)
theorem V_if_eq {x : Int32} {off : Int} (tgt : Nat) (hd : decode Y.2.1 pc = .ok (.ifCond .eq off, 3)) (ht : (pc : Int) + off = (tgt : Int)) (kt : x = 0 → V G Y R F gc gs tgt L S h) (kf : ¬ (x = 0) → V G Y R F gc gs (pc + 3) L S h) : V G Y R F gc gs pc L (.int x :: S) h := by
  intro p e s m args below meth c C H locs ls hS hH hl
  exact lv_if_eq C.1 C.2.1 hd ht (fun hc => kt hc p e s m args below meth c C H locs ls hS hH hl) (fun hc => kf hc p e s m args below meth c C H locs ls hS hH hl)
theorem V_if_ne {x : Int32} {off : Int} (tgt : Nat) (hd : decode Y.2.1 pc = .ok (.ifCond .ne off, 3)) (ht : (pc : Int) + off = (tgt : Int)) (kt : ¬ x = 0 → V G Y R F gc gs tgt L S h) (kf : x = 0 → V G Y R F gc gs (pc + 3) L S h) : V G Y R F gc gs pc L (.int x :: S) h := by
  intro p e s m args below meth c C H locs ls hS hH hl
  exact lv_if_ne C.1 C.2.1 hd ht (fun hc => kt hc p e s m args below meth c C H locs ls hS hH hl) (fun hc => kf hc p e s m args below meth c C H locs ls hS hH hl)
theorem V_if_lt {x : Int32} {off : Int} (tgt : Nat) (hd : decode Y.2.1 pc = .ok (.ifCond .lt off, 3)) (ht : (pc : Int) + off = (tgt : Int)) (kt : x < 0 → V G Y R F gc gs tgt L S h) (kf : ¬ (x < 0) → V G Y R F gc gs (pc + 3) L S h) : V G Y R F gc gs pc L (.int x :: S) h := by
  intro p e s m args below meth c C H locs ls hS hH hl
  exact lv_if_lt C.1 C.2.1 hd ht (fun hc => kt hc p e s m args below meth c C H locs ls hS hH hl) (fun hc => kf hc p e s m args below meth c C H locs ls hS hH hl)
theorem V_if_ge {x : Int32} {off : Int} (tgt : Nat) (hd : decode Y.2.1 pc = .ok (.ifCond .ge off, 3)) (ht : (pc : Int) + off = (tgt : Int)) (kt : 0 ≤ x → V G Y R F gc gs tgt L S h) (kf : ¬ (0 ≤ x) → V G Y R F gc gs (pc + 3) L S h) : V G Y R F gc gs pc L (.int x :: S) h := by
  intro p e s m args below meth c C H locs ls hS hH hl
  exact lv_if_ge C.1 C.2.1 hd ht (fun hc => kt hc p e s m args below meth c C H locs ls hS hH hl) (fun hc => kf hc p e s m args below meth c C H locs ls hS hH hl)
theorem V_if_gt {x : Int32} {off : Int} (tgt : Nat) (hd : decode Y.2.1 pc = .ok (.ifCond .gt off, 3)) (ht : (pc : Int) + off = (tgt : Int)) (kt : 0 < x → V G Y R F gc gs tgt L S h) (kf : ¬ (0 < x) → V G Y R F gc gs (pc + 3) L S h) : V G Y R F gc gs pc L (.int x :: S) h := by
  intro p e s m args below meth c C H locs ls hS hH hl
  exact lv_if_gt C.1 C.2.1 hd ht (fun hc => kt hc p e s m args below meth c C H locs ls hS hH hl) (fun hc => kf hc p e s m args below meth c C H locs ls hS hH hl)
theorem V_if_le {x : Int32} {off : Int} (tgt : Nat) (hd : decode Y.2.1 pc = .ok (.ifCond .le off, 3)) (ht : (pc : Int) + off = (tgt : Int)) (kt : x ≤ 0 → V G Y R F gc gs tgt L S h) (kf : ¬ (x ≤ 0) → V G Y R F gc gs (pc + 3) L S h) : V G Y R F gc gs pc L (.int x :: S) h := by
  intro p e s m args below meth c C H locs ls hS hH hl
  exact lv_if_le C.1 C.2.1 hd ht (fun hc => kt hc p e s m args below meth c C H locs ls hS hH hl) (fun hc => kf hc p e s m args below meth c C H locs ls hS hH hl)
theorem V_icmp_eq {x y : Int32} {off : Int} (tgt : Nat) (hd : decode Y.2.1 pc = .ok (.if_icmp .eq off, 3)) (ht : (pc : Int) + off = (tgt : Int)) (kt : x = y → V G Y R F gc gs tgt L S h) (kf : ¬ (x = y) → V G Y R F gc gs (pc + 3) L S h) : V G Y R F gc gs pc L (.int y :: .int x :: S) h := by
  intro p e s m args below meth c C H locs ls hS hH hl
  exact lv_icmp_eq C.1 C.2.1 hd ht (fun hc => kt hc p e s m args below meth c C H locs ls hS hH hl) (fun hc => kf hc p e s m args below meth c C H locs ls hS hH hl)
theorem V_icmp_ne {x y : Int32} {off : Int} (tgt : Nat) (hd : decode Y.2.1 pc = .ok (.if_icmp .ne off, 3)) (ht : (pc : Int) + off = (tgt : Int)) (kt : ¬ x = y → V G Y R F gc gs tgt L S h) (kf : x = y → V G Y R F gc gs (pc + 3) L S h) : V G Y R F gc gs pc L (.int y :: .int x :: S) h := by
  intro p e s m args below meth c C H locs ls hS hH hl
  exact lv_icmp_ne C.1 C.2.1 hd ht (fun hc => kt hc p e s m args below meth c C H locs ls hS hH hl) (fun hc => kf hc p e s m args below meth c C H locs ls hS hH hl)
theorem V_icmp_lt {x y : Int32} {off : Int} (tgt : Nat) (hd : decode Y.2.1 pc = .ok (.if_icmp .lt off, 3)) (ht : (pc : Int) + off = (tgt : Int)) (kt : x < y → V G Y R F gc gs tgt L S h) (kf : ¬ (x < y) → V G Y R F gc gs (pc + 3) L S h) : V G Y R F gc gs pc L (.int y :: .int x :: S) h := by
  intro p e s m args below meth c C H locs ls hS hH hl
  exact lv_icmp_lt C.1 C.2.1 hd ht (fun hc => kt hc p e s m args below meth c C H locs ls hS hH hl) (fun hc => kf hc p e s m args below meth c C H locs ls hS hH hl)
theorem V_icmp_ge {x y : Int32} {off : Int} (tgt : Nat) (hd : decode Y.2.1 pc = .ok (.if_icmp .ge off, 3)) (ht : (pc : Int) + off = (tgt : Int)) (kt : y ≤ x → V G Y R F gc gs tgt L S h) (kf : ¬ (y ≤ x) → V G Y R F gc gs (pc + 3) L S h) : V G Y R F gc gs pc L (.int y :: .int x :: S) h := by
  intro p e s m args below meth c C H locs ls hS hH hl
  exact lv_icmp_ge C.1 C.2.1 hd ht (fun hc => kt hc p e s m args below meth c C H locs ls hS hH hl) (fun hc => kf hc p e s m args below meth c C H locs ls hS hH hl)
theorem V_icmp_gt {x y : Int32} {off : Int} (tgt : Nat) (hd : decode Y.2.1 pc = .ok (.if_icmp .gt off, 3)) (ht : (pc : Int) + off = (tgt : Int)) (kt : y < x → V G Y R F gc gs tgt L S h) (kf : ¬ (y < x) → V G Y R F gc gs (pc + 3) L S h) : V G Y R F gc gs pc L (.int y :: .int x :: S) h := by
  intro p e s m args below meth c C H locs ls hS hH hl
  exact lv_icmp_gt C.1 C.2.1 hd ht (fun hc => kt hc p e s m args below meth c C H locs ls hS hH hl) (fun hc => kf hc p e s m args below meth c C H locs ls hS hH hl)
theorem V_icmp_le {x y : Int32} {off : Int} (tgt : Nat) (hd : decode Y.2.1 pc = .ok (.if_icmp .le off, 3)) (ht : (pc : Int) + off = (tgt : Int)) (kt : x ≤ y → V G Y R F gc gs tgt L S h) (kf : ¬ (x ≤ y) → V G Y R F gc gs (pc + 3) L S h) : V G Y R F gc gs pc L (.int y :: .int x :: S) h := by
  intro p e s m args below meth c C H locs ls hS hH hl
  exact lv_icmp_le C.1 C.2.1 hd ht (fun hc => kt hc p e s m args below meth c C H locs ls hS hH hl) (fun hc => kf hc p e s m args below meth c C H locs ls hS hH hl)
theorem V_goto {off : Int} (tgt : Nat) (hd : decode Y.2.1 pc = .ok (.goto off, 3)) (ht : (pc : Int) + off = (tgt : Int)) (K : V G Y R F gc gs tgt L S h) : V G Y R F gc gs pc L S h := by
  intro p e s m args below meth c C H locs ls hS hH hl
  exact lv_goto C.1 C.2.1 hd ht (K p e s m args below meth c C H locs ls hS hH hl)
theorem V_null (hd : decode Y.2.1 pc = .ok (.aconst_null, 1)) (K : V G Y R F gc gs (pc + 1) L (.null :: S) h) : V G Y R F gc gs pc L S h := by
  intro p e s m args below meth c C H locs ls hS hH hl
  exact lv_null C.1 C.2.1 hd (K p e s m args below meth c C H locs ls hS hH hl)
theorem V_ifnonnull {x : Nat} {off : Int} (tgt : Nat) (hd : decode Y.2.1 pc = .ok (.ifnonnull off, 3)) (ht : (pc : Int) + off = (tgt : Int)) (K : V G Y R F gc gs tgt L S h) : V G Y R F gc gs pc L (.ref x :: S) h := by
  intro p e s m args below meth c C H locs ls hS hH hl
  exact lv_ifnonnull C.1 C.2.1 hd ht (K p e s m args below meth c C H locs ls hS hH hl)
theorem V_ifnull {x : Nat} {off : Int} (hd : decode Y.2.1 pc = .ok (.ifnull off, 3)) (K : V G Y R F gc gs (pc + 3) L S h) : V G Y R F gc gs pc L (.ref x :: S) h := by
  intro p e s m args below meth c C H locs ls hS hH hl
  exact lv_ifnull C.1 C.2.1 hd (K p e s m args below meth c C H locs ls hS hH hl)
theorem V_ifnullN {off : Int} (tgt : Nat) (hd : decode Y.2.1 pc = .ok (.ifnull off, 3)) (ht : (pc : Int) + off = (tgt : Int)) (K : V G Y R F gc gs tgt L S h) : V G Y R F gc gs pc L (.null :: S) h := by
  intro p e s m args below meth c C H locs ls hS hH hl
  exact lv_ifnullN C.1 C.2.1 hd ht (K p e s m args below meth c C H locs ls hS hH hl)
theorem V_ifnonnullN {off : Int} (hd : decode Y.2.1 pc = .ok (.ifnonnull off, 3)) (K : V G Y R F gc gs (pc + 3) L S h) : V G Y R F gc gs pc L (.null :: S) h := by
  intro p e s m args below meth c C H locs ls hS hH hl
  exact lv_ifnonnullN C.1 C.2.1 hd (K p e s m args below meth c C H locs ls hS hH hl)
theorem V_tableOut {dflt lo hi : Int} {offs : Array Int} {len : Nat} {x : Int32} (tgt : Nat) (hd : decode Y.2.1 pc = .ok (.tableswitch dflt lo hi offs, len)) (hx : x.toInt < lo ∨ hi < x.toInt) (ht : (pc : Int) + dflt = (tgt : Int)) (K : V G Y R F gc gs tgt L S h) : V G Y R F gc gs pc L (.int x :: S) h := by
  intro p e s m args below meth c C H locs ls hS hH hl
  exact lv_tableOut C.1 C.2.1 hd hx ht (K p e s m args below meth c C H locs ls hS hH hl)
theorem V_tableIn {dflt lo hi : Int} {offs : Array Int} {len : Nat} {x : Int32} {off : Int} (tgt : Nat) (hd : decode Y.2.1 pc = .ok (.tableswitch dflt lo hi offs, len)) (h1 : ¬ x.toInt < lo) (h2 : ¬ hi < x.toInt) (ho : offs[(x.toInt - lo).toNat]? = some off) (ht : (pc : Int) + off = (tgt : Int)) (K : V G Y R F gc gs tgt L S h) : V G Y R F gc gs pc L (.int x :: S) h := by
  intro p e s m args below meth c C H locs ls hS hH hl
  exact lv_tableIn C.1 C.2.1 hd h1 h2 ho ht (K p e s m args below meth c C H locs ls hS hH hl)
theorem V_lookup {dflt : Int} {ps : Array (Int × Int)} {len : Nat} {x : Int32} {off : Int} (tgt : Nat) (hd : decode Y.2.1 pc = .ok (.lookupswitch dflt ps, len)) (hp : (ps.toList.zip (ps.toList.drop 1)).all (fun (a, next) => a.1 < next.1) = true) (ho : Op.lookupswitch.offset ps.toList dflt x.toInt = off) (ht : (pc : Int) + off = (tgt : Int)) (K : V G Y R F gc gs tgt L S h) : V G Y R F gc gs pc L (.int x :: S) h := by
  intro p e s m args below meth c C H locs ls hS hH hl
  exact lv_lookup C.1 C.2.1 hd hp ho ht (K p e s m args below meth c C H locs ls hS hH hl)
theorem V_ldc {idx : Nat} {v : Int32} (hd : decode Y.2.1 pc = .ok (.ldc idx, 2)) (w : Cond.constant Y.1.cls idx v ∈ TBg) (K : V G Y R F gc gs (pc + 2) L (.int v :: S) h) : V G Y R F gc gs pc L S h := by
  intro p e s m args below meth c C H locs ls hS hH hl
  exact lv_ldc C.1 C.2.1 C.2.2.2.2.2.2.1 (C.2.2.2.2.2.2.2.1 _ w) hd (K p e s m args below meth c C H locs ls hS hH hl)
theorem V_ldcw {idx : Nat} {v : Int32} (hd : decode Y.2.1 pc = .ok (.ldc_w idx, 3)) (w : Cond.constant Y.1.cls idx v ∈ TBg) (K : V G Y R F gc gs (pc + 3) L (.int v :: S) h) : V G Y R F gc gs pc L S h := by
  intro p e s m args below meth c C H locs ls hS hH hl
  exact lv_ldcw C.1 C.2.1 C.2.2.2.2.2.2.1 (C.2.2.2.2.2.2.2.1 _ w) hd (K p e s m args below meth c C H locs ls hS hH hl)
end RV
end
section
def up2 {α : Type} (f : Nat → Nat → α) (a i : Nat) (x : α) : Nat → Nat → α := fun b j => if b = a ∧ j = i then x else f b j
theorem up2_row {α : Type} (f : Nat → Nat → α) (a i : Nat) (x : α) {b : Nat} (h : b ≠ a) : up2 f a i x b = f b := by
  funext j
  simp [up2, h]
theorem up2_own {α : Type} (f : Nat → Nat → α) (a i : Nat) (x : α) (j : Nat) : up2 f a i x a j = if j = i then x else f a j := by
  simp [up2]
/-- ints in place i of cell a; a reference there; a new cell of kind t and length n -/
def sI (h : Hp) (a i : Nat) (x : Int32) : Hp := (up2 h.1 a i x, h.2)
def sR (h : Hp) (a i : Nat) (x : Option Nat) : Hp := (h.1, up2 h.2.1 a i x, h.2.2)
def nw (h : Hp) (t n : Nat) : Hp := (fun a i => if a = h.2.2.2.2 then 0 else h.1 a i, fun a i => if a = h.2.2.2.2 then none else h.2.1 a i, fun a => if a = h.2.2.2.2 then t else h.2.2.1 a, fun a => if a = h.2.2.2.2 then n else h.2.2.2.1 a, h.2.2.2.2 + 1)
/-- a field's words: of the class with number c the field in place j -/
def CkF (own : String) (idx c j : Nat) (d : String) (b fin : Bool) : Prop := ∃ q : vw_C, cl_[c]? = some q ∧ j < q.2.2 ∧ (isR c j = b ∧ (q.2.1 j).2.2.1 = d ∧ (q.2.1 j).2.2.2 = fin) ∧ (q.2.1 j).1 = q.1 ∧
  (Cond.fieldLink own idx q.1 (q.2.1 j).2.1 (q.2.1 j).2.2.1 ∈ TBg ∨ ∃ host, Cond.fieldLinkNest own idx q.1 (q.2.1 j).2.1 (q.2.1 j).2.2.1 host ∈ TBn)
section RH
variable {G : Gl} {Y : MI} {R : Room} {F : Fn} {gc gs pc : Nat} {L : List (Option Value)} {S : List Value} {h : Hp}
theorem V_get {idx c j k : Nat} {d : String} {b fin : Bool} (hd : decode Y.2.1 pc = .ok (.getfield idx, 3)) (w : CkF Y.1.cls idx c j d b fin) (hT : h.2.2.1 k = c + 1)
    {v : Value} (hv : cv G v = if isR c j = true then rv G (h.2.1 k j) else .int (h.1 k j)) (K : V G Y R F gc gs (pc + 3) L (v :: S) h) : V G Y R F gc gs pc L (.ref k :: S) h := by
  intro p e s m args below meth cd C H locs ls hS hH hl
  obtain ⟨C1, C2, C3, C4, C5, C6, C7, C8, C9, C10, C11⟩ := id C
  obtain ⟨q, hq, hj, hb, hdc, hw⟩ := w
  obtain ⟨k1, k2, k3⟩ := hH.2.2 k (by rw [hT]; omega)
  rw [hT] at k3
  obtain ⟨q', hq', cell, g1, g2, g3, g4⟩ := k3.o (cl_len hq)
  cases hq.symm.trans hq'
  obtain ⟨hSl, hfc, kC, hkC, hkind⟩ := C9.1 c q hq
  obtain ⟨cf, kf, fi, f, hi, hsl⟩ := hSl j hj
  have hst := (u_facts hfc hkC (u_lays C8 (cl_in c q hq) hj) hi).1
  have hv' : cell.slots[f.slot]? = some (cv G v) := by rw [hsl, g4 j hj, hv]
  rw [hdc] at hi
  rcases hw with hw | ⟨host, hw⟩
  · exact W.getf C1 C2 C7 (C8 _ hw) hi hst g1 (by rw [g3]; exact fun h => by cases h) hv' rfl rfl hd (K p e s m args below meth cd C H locs ls hS hH hl)
  · exact va_Wgetf C1 C2 C7 (va_Nw.use rfl (C9.2.2.2.2 _ hw)) hi hst g1 (by rw [g3]; exact fun h => by cases h) hv' rfl rfl hd (K p e s m args below meth cd C H locs ls hS hH hl)
theorem V_getI {idx c j k : Nat} {d : String} {fin : Bool} (hd : decode Y.2.1 pc = .ok (.getfield idx, 3)) (w : CkF Y.1.cls idx c j d false fin) (hT : h.2.2.1 k = c + 1)
    (K : V G Y R F gc gs (pc + 3) L (.int (h.1 k j) :: S) h) : V G Y R F gc gs pc L (.ref k :: S) h :=
  V_get hd w hT (by obtain ⟨q, hq, hj, hb, hw⟩ := w; rw [hb.1]; rfl) K
theorem V_getQ {idx c j k : Nat} {d : String} {fin : Bool} (hd : decode Y.2.1 pc = .ok (.getfield idx, 3)) (w : CkF Y.1.cls idx c j d true fin) (hT : h.2.2.1 k = c + 1)
    (K : V G Y R F gc gs (pc + 3) L (rfv (h.2.1 k j) :: S) h) : V G Y R F gc gs pc L (.ref k :: S) h :=
  V_get hd w hT (by obtain ⟨q, hq, hj, hb, hw⟩ := w; rw [hb.1, if_pos rfl, cv_rfv]) K
theorem V_getR {idx c j k x : Nat} {d : String} {fin : Bool} (hd : decode Y.2.1 pc = .ok (.getfield idx, 3)) (w : CkF Y.1.cls idx c j d true fin) (hT : h.2.2.1 k = c + 1) (hR : h.2.1 k j = some x)
    (K : V G Y R F gc gs (pc + 3) L (.ref x :: S) h) : V G Y R F gc gs pc L (.ref k :: S) h :=
  V_getQ hd w hT (by rw [hR]; exact K)
theorem V_put {idx c j k : Nat} {d : String} {b fin : Bool} {v : Value} {h' : Hp} (hd : decode Y.2.1 pc = .ok (.putfield idx, 3)) (w : CkF Y.1.cls idx c j d b fin) (hfin : fin = true → Y.1.name = "<init>" ∧ ∃ q : vw_C, cl_[c]? = some q ∧ q.1 = Y.1.cls) (hT : h.2.2.1 k = c + 1)
    (hty : ∃ ty, parseFieldDescriptor d = some ty ∧ narrow ty (cv G v) = cv G v ∧ fits ty (cv G v) = true) (h1 : h'.2.2 = h.2.2) (h2 : ∀ i, i ≠ k → h'.1 i = h.1 i ∧ h'.2.1 i = h.2.1 i)
    (h3 : ∀ i, (if isR c i = true then rv G (h'.2.1 k i) else .int (h'.1 k i)) = if i = j then cv G v else (if isR c i = true then rv G (h.2.1 k i) else .int (h.1 k i)))
    (h7 : c = 7 → zo (h.1 k 4) → zo (h'.1 k 4)) (K : V G Y R F gc gs (pc + 3) L S h') : V G Y R F gc gs pc L (v :: .ref k :: S) h := by
  intro p e s m args below meth cd C H locs ls hS hH hl
  obtain ⟨C1, C2, C3, C4, C5, C6, C7, C8, C9, C10, C11⟩ := id C
  obtain ⟨q, hq, hj, ⟨hb, hdd, hff⟩, hdc, hw⟩ := w
  obtain ⟨k1, k2, k3⟩ := hH.2.2 k (by rw [hT]; omega)
  rw [hT] at k3
  obtain ⟨q', hq', cell, g1, g2, g3, g4⟩ := k3.o (cl_len hq)
  cases hq.symm.trans hq'
  obtain ⟨ty, hpd, hn, hfit⟩ := hty
  obtain ⟨ty0, hty0⟩ := cl_ty c q hq
  have hK' : va_K (G.2.2.1, G.2.2.2.1) cl_ [] s := ⟨C9.1, fun _ _ h => by simp at h⟩
  have hap := va_apart (own := Y.1.cls) C8 (cl_in c q hq) ty0 hty0 (cl_nm c q hq) hK' hq
  obtain ⟨hSl, hfc, kC, hkC, hkind⟩ := C9.1 c q hq
  obtain ⟨cf, kf, fi, f, hi, hsl⟩ := hSl j hj
  have hlay0 := u_lays C8 (cl_in c q hq) hj
  have hst := (u_facts hfc hkC hlay0 hi).1
  have h6 := u_fits hfc hkC hkind hlay0 hi (by rw [hdd]; exact hpd) hn hfit
  have fin' : hasFlag f.accessFlags Acc.final = false ∨ (m.cls = cf ∧ meth.name = "<init>") := by
    have hlay := C8 _ (cl_in c q hq _ (u_in_lay hj))
    unfold u_lay at hlay
    cases fin with
    | false =>
      rw [if_neg (by rw [hff]; decide)] at hlay
      exact Or.inl (u_store hfc hkC hkind hlay hi (by rw [hdd]; exact hpd) hn hfit).1
    | true =>
      rw [if_pos hff] at hlay
      obtain ⟨f1, q2, hq2, f2⟩ := hfin rfl
      cases hq.symm.trans hq2
      obtain ⟨_, _, c', _, _, _, -, -, hf', -, -, -, hown2, -⟩ := Cond.laysFinal_spec hlay
      have e1 : c' = cf := by have := hi.symm.trans hf'; simp at this; exact this.1.symm
      rw [hdc, f2] at hown2
      exact Or.inr ⟨by rw [← e1]; exact Option.some.inj (C7.symm.trans hown2), by rw [C6]; exact f1⟩
  rw [hdc] at hi
  have ha : ad G k < H.size := (Array.getElem?_eq_some_iff.mp g1).1
  have hlt : f.slot < cell.slots.size := by rw [hsl]; exact k2_hasslot (g4 j hj)
  have cont : W p G.1 e R s m args below meth cd (H.setIfInBounds (ad G k) (cell.setSlot f.slot (cv G v))) (locs ++ [⟨ad G k, f.slot⟩]) gc gs (F s below args) (F0 m (pc + 3) ls (S.map (cv G))) := by
    have e2 : (H.setIfInBounds (ad G k) (cell.setSlot f.slot (cv G v))).size = H.size := by simp
    have e3 : ∀ x, x ≠ ad G k → (H.setIfInBounds (ad G k) (cell.setSlot f.slot (cv G v)))[x]? = H[x]? := fun x hx => by simp [Array.getElem?_setIfInBounds, Ne.symm hx]
    refine K p e s m args below meth cd C _ _ ls (hS.put e2 e3 (by rw [ad_ge G k1]; exact Nat.le_add_right _ _)) (hH.put k1 e2 e3 h1 h2 ?_) hl
    rw [hT]
    refine Or.inl ⟨c, q, rfl, hq, t_OB.to (V := updV (fun i => if isR c i = true then rv G (h.2.1 k i) else .int (h.1 k i)) j (cv G v)) ⟨cell.setSlot f.slot (cv G v), by simp [Array.getElem?_setIfInBounds, ha], g2, g3, by rw [hsl]; exact t_set g4 hap hj _⟩ (fun i _ => ?_), fun e => h7 e (k3.oz e)⟩
    rw [h3 i]
    rfl
  rcases hw with hw | ⟨host, hw⟩
  · exact W.putf C1 C2 C7 (C8 _ hw) hi hst fin' g1 (by rw [g3]; exact fun h => by cases h) hlt h6.1 (by rw [g2, g3]; exact h6.2) rfl rfl hd cont
  · exact va_Wputf C1 C2 C7 (va_Nw.use rfl (C9.2.2.2.2 _ hw)) hi hst fin' g1 (by rw [g3]; exact fun h => by cases h) hlt h6.1 (by rw [g2, g3]; exact h6.2) rfl rfl hd cont
theorem V_putI {idx c j k : Nat} {x : Int32} (hd : decode Y.2.1 pc = .ok (.putfield idx, 3)) (w : CkF Y.1.cls idx c j "I" false false) (hT : h.2.2.1 k = c + 1)
    (K : V G Y R F gc gs (pc + 3) L S (sI h k j x)) : V G Y R F gc gs pc L (.int x :: .ref k :: S) h := by
  refine V_put (h' := sI h k j x) hd w (fun h => by cases h) hT ⟨.int, rfl, rfl, rfl⟩ rfl (fun i hi => ⟨up2_row _ _ _ _ hi, rfl⟩) (fun i => ?_) (fun e z => by
    obtain ⟨q, hq, hj, hb, hw⟩ := w
    subst e
    have hj4 : ¬ 4 = j := fun e4 => by subst e4; cases hq; exact absurd hb.2.1 (by decide)
    show zo (up2 h.1 k j x k 4)
    rw [up2_own, if_neg hj4]; exact z) K
  have hb : isR c j = false := by obtain ⟨q, hq, hj, hb, hw⟩ := w; exact hb.1
  show (if isR c i = true then rv G (h.2.1 k i) else .int (up2 h.1 k j x k i)) = _
  rw [up2_own]
  by_cases hi : i = j
  · subst hi; simp [hb]; rfl
  · simp [hi]
theorem V_putZ {idx c j k : Nat} {x : Int32} (hd : decode Y.2.1 pc = .ok (.putfield idx, 3)) (w : CkF Y.1.cls idx c j "Z" false false) (hT : h.2.2.1 k = c + 1) (hx : x = 0 ∨ x = 1)
    (K : V G Y R F gc gs (pc + 3) L S (sI h k j x)) : V G Y R F gc gs pc L (.int x :: .ref k :: S) h := by
  refine V_put (h' := sI h k j x) hd w (fun h => by cases h) hT ⟨.boolean, rfl, by rcases hx with rfl | rfl <;> rfl, by rcases hx with rfl | rfl <;> rfl⟩ rfl (fun i hi => ⟨up2_row _ _ _ _ hi, rfl⟩) (fun i => ?_) (fun e z => by
    show zo (up2 h.1 k j x k 4)
    rw [up2_own]; split
    · exact hx
    · exact z) K
  have hb : isR c j = false := by obtain ⟨q, hq, hj, hb, hw⟩ := w; exact hb.1
  show (if isR c i = true then rv G (h.2.1 k i) else .int (up2 h.1 k j x k i)) = _
  rw [up2_own]
  by_cases hi : i = j
  · subst hi; simp [hb]; rfl
  · simp [hi]
theorem V_putQ {idx c j k x : Nat} {d : String} {fin : Bool} (hd : decode Y.2.1 pc = .ok (.putfield idx, 3)) (w : CkF Y.1.cls idx c j d true fin) (hfin : fin = true → Y.1.name = "<init>" ∧ ∃ q : vw_C, cl_[c]? = some q ∧ q.1 = Y.1.cls) (hT : h.2.2.1 k = c + 1)
    (hty : ∃ ty, parseFieldDescriptor d = some ty ∧ ((∃ n, ty = .object n) ∨ ∃ t, ty = .array t)) (K : V G Y R F gc gs (pc + 3) L S (sR h k j (some x))) : V G Y R F gc gs pc L (.ref x :: .ref k :: S) h := by
  obtain ⟨ty, ht, hk⟩ := hty
  refine V_put (h' := sR h k j (some x)) hd w hfin hT ⟨ty, ht, by rcases hk with ⟨n, rfl⟩ | ⟨t, rfl⟩ <;> rfl, by rcases hk with ⟨n, rfl⟩ | ⟨t, rfl⟩ <;> rfl⟩ rfl (fun i hi => ⟨rfl, up2_row _ _ _ _ hi⟩) (fun i => ?_) (fun _ z => z) K
  have hb : isR c j = true := by obtain ⟨q, hq, hj, hb, hw⟩ := w; exact hb.1
  show (if isR c i = true then rv G (up2 h.2.1 k j (some x) k i) else .int (h.1 k i)) = _
  rw [up2_own]
  by_cases hi : i = j
  · subst hi; simp [hb]; rfl
  · simp [hi]
theorem V_putN {idx c j k : Nat} {d : String} {fin : Bool} (hd : decode Y.2.1 pc = .ok (.putfield idx, 3)) (w : CkF Y.1.cls idx c j d true fin) (hfin : fin = true → Y.1.name = "<init>" ∧ ∃ q : vw_C, cl_[c]? = some q ∧ q.1 = Y.1.cls) (hT : h.2.2.1 k = c + 1)
    (hty : ∃ ty, parseFieldDescriptor d = some ty ∧ ((∃ n, ty = .object n) ∨ ∃ t, ty = .array t)) (K : V G Y R F gc gs (pc + 3) L S (sR h k j none)) : V G Y R F gc gs pc L (.null :: .ref k :: S) h := by
  obtain ⟨ty, ht, hk⟩ := hty
  refine V_put (h' := sR h k j none) hd w hfin hT ⟨ty, ht, by rcases hk with ⟨n, rfl⟩ | ⟨t, rfl⟩ <;> rfl, by rcases hk with ⟨n, rfl⟩ | ⟨t, rfl⟩ <;> rfl⟩ rfl (fun i hi => ⟨rfl, up2_row _ _ _ _ hi⟩) (fun i => ?_) (fun _ z => z) K
  have hb : isR c j = true := by obtain ⟨q, hq, hj, hb, hw⟩ := w; exact hb.1
  show (if isR c i = true then rv G (up2 h.2.1 k j none k i) else .int (h.1 k i)) = _
  rw [up2_own]
  by_cases hi : i = j
  · subst hi; simp [hb]; rfl
  · simp [hi]
end RH
end
section
section RA
variable {G : Gl} {Y : MI} {R : Room} {F : Fn} {gc gs pc : Nat} {L : List (Option Value)} {S : List Value} {h : Hp}
theorem in_nI {i n : Nat} (hi : i < n ∧ n < 2147483648) : ¬ (nI i < 0 ∨ n ≤ (nI i).toNatClampNeg) := nI_in hi.1 hi.2
theorem V_iald {k : Nat} {x : Int32} (i : Nat) (hd : decode Y.2.1 pc = .ok (.iaload, 1)) (hT : h.2.2.1 k = 20) (hx : x = nI i) (hi : i < h.2.2.2.1 k ∧ h.2.2.2.1 k < 2147483648)
    (K : V G Y R F gc gs (pc + 1) L (.int (h.1 k i) :: S) h) : V G Y R F gc gs pc L (.int x :: .ref k :: S) h := by
  intro p e s m args below meth c C H locs ls hS hH hl
  subst hx
  obtain ⟨k1, k2, k3⟩ := hH.2.2 k (by rw [hT]; decide)
  rw [hT] at k3
  refine W.iald (v := .int (h.1 k i)) C.1 C.2.1 k3.i (C.2.2.2.2.2.2.2.2.1.2.1.1 _ _) (fun q => by cases q) (by rw [arrV_size]; exact in_nI hi) (by rw [nI_clamp (by omega), arrV_read _ _ hi.1]) rfl rfl hd (K p e s m args below meth c C H locs ls hS hH hl)
theorem V_zald {k : Nat} {x : Int32} (i : Nat) (hd : decode Y.2.1 pc = .ok (.baload, 1)) (hT : h.2.2.1 k = 21) (hx : x = nI i) (hi : i < h.2.2.2.1 k ∧ h.2.2.2.1 k < 2147483648)
    (K : V G Y R F gc gs (pc + 1) L (.int (h.1 k i) :: S) h) : V G Y R F gc gs pc L (.int x :: .ref k :: S) h := by
  intro p e s m args below meth c C H locs ls hS hH hl
  subst hx
  obtain ⟨k1, k2, k3⟩ := hH.2.2 k (by rw [hT]; decide)
  rw [hT] at k3
  refine W.zald (v := .int (h.1 k i)) C.1 C.2.1 k3.z (C.2.2.2.2.2.2.2.2.1.2.2.1.1 _ _) (fun q => by cases q) (by rw [arrV_size]; exact in_nI hi) (by rw [nI_clamp (by omega), arrV_read _ _ hi.1]) rfl rfl hd (K p e s m args below meth c C H locs ls hS hH hl)
theorem V_aald {k c : Nat} {x : Int32} (i : Nat) (hd : decode Y.2.1 pc = .ok (.aaload, 1)) (hT : h.2.2.1 k = c + 40) (hc : c ∈ arrCs) (hx : x = nI i) (hi : i < h.2.2.2.1 k ∧ h.2.2.2.1 k < 2147483648) {y : Nat} (hy : h.2.1 k i = some y)
    (K : V G Y R F gc gs (pc + 1) L (.ref y :: S) h) : V G Y R F gc gs pc L (.int x :: .ref k :: S) h := by
  intro p e s m args below meth cd C H locs ls hS hH hl
  subst hx
  obtain ⟨k1, k2, k3⟩ := hH.2.2 k (by rw [hT]; omega)
  rw [hT] at k3
  have hlc : c < 13 := by simp [arrCs] at hc; omega
  obtain ⟨q, hq⟩ : ∃ q, cl_[c]? = some q := ⟨_, List.getElem?_eq_getElem hlc⟩
  refine W.aald (v := .ref (ad G y)) (ty := .object q.1) C.1 C.2.1 k3.r ((C.2.2.2.2.2.2.2.2.1.2.2.2.1 c hc q hq).1 _ _) rfl (fun q => by cases q) (by rw [arrV_size]; exact in_nI hi) (by rw [nI_clamp (by omega), arrV_read _ _ hi.1, hy]; rfl) rfl rfl hd (K p e s m args below meth cd C H locs ls hS hH hl)
theorem V_iast {k : Nat} {x z : Int32} (i : Nat) (hd : decode Y.2.1 pc = .ok (.iastore, 1)) (hT : h.2.2.1 k = 20) (hx : x = nI i) (hi : i < h.2.2.2.1 k ∧ h.2.2.2.1 k < 2147483648)
    (K : V G Y R F gc gs (pc + 1) L S (sI h k i z)) : V G Y R F gc gs pc L (.int z :: .int x :: .ref k :: S) h := by
  intro p e s m args below meth c C H locs ls hS hH hl
  subst hx
  obtain ⟨k1, k2, k3⟩ := hH.2.2 k (by rw [hT]; decide)
  rw [hT] at k3
  refine W.iast C.1 C.2.1 k3.i (C.2.2.2.2.2.2.2.2.1.2.1.1 _ _) (fun q => by cases q) (by rw [arrV_size]; exact in_nI hi) rfl rfl hd (fun H1 e1 e2 e3 => ?_)
  refine K p e s m args below meth c C H1 _ ls (hS.put e2 e3 (by rw [ad_ge G k1]; exact Nat.le_add_right _ _)) (hH.put k1 e2 e3 rfl (fun j hj => ⟨up2_row _ _ _ _ hj, rfl⟩) ?_) hl
  rw [hT]
  refine Or.inr (Or.inl ⟨rfl, ?_⟩)
  rw [e1, arrV_store, nI_clamp (by omega)]
  congr 2
  funext j
  show updV _ i (.int z) j = .int (up2 h.1 k i z k j)
  rw [up2_own]
  by_cases hj : j = i <;> simp [updV, hj]
theorem V_zast {k : Nat} {x z : Int32} (i : Nat) (hd : decode Y.2.1 pc = .ok (.bastore, 1)) (hT : h.2.2.1 k = 21) (hx : x = nI i) (hi : i < h.2.2.2.1 k ∧ h.2.2.2.1 k < 2147483648) (hz : z = 0 ∨ z = 1)
    (K : V G Y R F gc gs (pc + 1) L S (sI h k i z)) : V G Y R F gc gs pc L (.int z :: .int x :: .ref k :: S) h := by
  intro p e s m args below meth c C H locs ls hS hH hl
  subst hx
  obtain ⟨k1, k2, k3⟩ := hH.2.2 k (by rw [hT]; decide)
  rw [hT] at k3
  refine W.zast C.1 C.2.1 k3.z (C.2.2.2.2.2.2.2.2.1.2.2.1.1 _ _) (fun q => by cases q) (by rw [arrV_size]; exact in_nI hi) rfl rfl hd (fun H1 e1 e2 e3 => ?_)
  refine K p e s m args below meth c C H1 _ ls (hS.put e2 e3 (by rw [ad_ge G k1]; exact Nat.le_add_right _ _)) (hH.put k1 e2 e3 rfl (fun j hj => ⟨up2_row _ _ _ _ hj, rfl⟩) ?_) hl
  rw [hT]
  refine Or.inr (Or.inr (Or.inl ⟨rfl, ?_, fun j hj => by
    show zo (up2 h.1 k i z k j)
    rw [up2_own]; split
    · exact hz
    · exact k3.zall j hj⟩))
  have hn : narrow .boolean (.int z) = .int z := by rcases hz with rfl | rfl <;> rfl
  rw [e1, hn, arrV_store, nI_clamp (by omega)]
  congr 2
  funext j
  show updV _ i (.int z) j = .int (up2 h.1 k i z k j)
  rw [up2_own]
  by_cases hj : j = i <;> simp [updV, hj]
theorem V_aast {k c y : Nat} {x : Int32} (i : Nat) (hd : decode Y.2.1 pc = .ok (.aastore, 1)) (hT : h.2.2.1 k = c + 40) (hc : c ∈ arrCs) (hx : x = nI i) (hi : i < h.2.2.2.1 k ∧ h.2.2.2.1 k < 2147483648) (hy : h.2.2.1 y = c + 1)
    (K : V G Y R F gc gs (pc + 1) L S (sR h k i (some y))) : V G Y R F gc gs pc L (.ref y :: .int x :: .ref k :: S) h := by
  intro p e s m args below meth cd C H locs ls hS hH hl
  subst hx
  obtain ⟨k1, k2, k3⟩ := hH.2.2 k (by rw [hT]; omega)
  rw [hT] at k3
  obtain ⟨y1, y2, y3⟩ := hH.2.2 y (by rw [hy]; omega)
  rw [hy] at y3
  have hlc : c < 13 := by simp [arrCs] at hc; omega
  obtain ⟨q, hq, cell, g1, g2, g3, -⟩ := y3.o hlc
  have hcls := (C.2.2.2.2.2.2.2.2.1.1 c q hq).2
  obtain ⟨kA, comp, a1, a2, a3, -⟩ := (C.2.2.2.2.2.2.2.2.1.2.2.2.1 c hc q hq).2.1
  have hcomp : comp = G.2.2.1 c := Option.some.inj (a3.symm.trans hcls.1)
  subst hcomp
  obtain ⟨kC, hkC, -⟩ := id hcls.2
  refine W.aast C.1 C.2.1 k3.r (fun q h => by cases h) (fun h => by cases h) a1 a2 rfl hkC ⟨nI_pos (by omega), by rw [arrV_size, nI_clamp (by omega)]; exact hi.1⟩ g1 (fun q h => by rw [g3] at h; cases h) (by rw [g2]; exact hkC) (by rw [g2]; exact va_assign hcls) rfl rfl hd (fun H1 e1 e2 e3 => ?_)
  refine K p e s m args below meth cd C H1 _ ls (hS.put e2 e3 (by rw [ad_ge G k1]; exact Nat.le_add_right _ _)) (hH.put k1 e2 e3 rfl (fun j hj => ⟨rfl, up2_row _ _ _ _ hj⟩) ?_) hl
  rw [hT]
  refine Or.inr (Or.inr (Or.inr ⟨c, rfl, ?_⟩))
  rw [e1, arrV_store, nI_clamp (by omega)]
  congr 2
  funext j
  show updV _ i (.ref (ad G y)) j = rv G (up2 h.2.1 k i (some y) k j)
  rw [up2_own]
  by_cases hj : j = i <;> simp [updV, hj, rv]
theorem V_alen {k : Nat} (hd : decode Y.2.1 pc = .ok (.arraylength, 1)) (hT : h.2.2.1 k = 20) (K : V G Y R F gc gs (pc + 1) L (.int (nI (h.2.2.2.1 k)) :: S) h) : V G Y R F gc gs pc L (.ref k :: S) h := by
  intro p e s m args below meth c C H locs ls hS hH hl
  obtain ⟨k1, k2, k3⟩ := hH.2.2 k (by rw [hT]; decide)
  rw [hT] at k3
  exact W.alen (n := nI (h.2.2.2.1 k)) C.1 C.2.1 k3.i (C.2.2.2.2.2.2.2.2.1.2.1.1 _ _) (by rw [arrV_size] <;> rfl) rfl rfl hd (K p e s m args below meth c C H locs ls hS hH hl)
theorem sf_now {s : State} {m : MethodId} {args : Array Value} {meth : Method} {c : Code} {p : Program} {H : Heap} {locs : List Loc} (C : Cx G Y p s m args meth c) (hS : va_S (AA G) s.heap H locs) : SF G s H :=
  C.2.2.2.2.2.2.2.2.2.1.kept C.2.2.2.2.2.2.2.2.2.2 hS.2.1
theorem V_slen (hd : decode Y.2.1 pc = .ok (.arraylength, 1)) (K : V G Y R F gc gs (pc + 1) L (.int (nI G.2.2.2.2.2.1) :: S) h) : V G Y R F gc gs pc L (.ref 2 :: S) h := by
  intro p e s m args below meth c C H locs ls hS hH hl
  obtain ⟨scr, h1, h2, h3, h4, h5⟩ := (sf_now C hS).2.2.2.2.1
  exact W.alen (n := nI G.2.2.2.2.2.1) C.1 C.2.1 h1 h2 (by rw [h4] <;> rfl) rfl rfl hd (K p e s m args below meth c C H locs ls hS hH hl)
theorem V_sld {x : Int32} (i : Nat) (hd : decode Y.2.1 pc = .ok (.iaload, 1)) (hx : x = nI i) (hi : i < G.2.2.2.2.2.1 ∧ G.2.2.2.2.2.1 < 2147483648) (K : V G Y R F gc gs (pc + 1) L (.int (G.2.2.2.2.2.2 i) :: S) h) : V G Y R F gc gs pc L (.int x :: .ref 2 :: S) h := by
  intro p e s m args below meth c C H locs ls hS hH hl
  subst hx
  obtain ⟨scr, h1, h2, h3, h4, h5⟩ := (sf_now C hS).2.2.2.2.1
  exact W.iald (v := .int (G.2.2.2.2.2.2 i)) C.1 C.2.1 h1 h2 h3 (by rw [h4]; exact in_nI hi) (by rw [nI_clamp (by omega)]; exact h5 i hi.1) rfl rfl hd (K p e s m args below meth c C H locs ls hS hH hl)
theorem V_kald {x : Int32} (i : Nat) (hd : decode Y.2.1 pc = .ok (.iaload, 1)) (hx : x = nI i) (hi : i < 6) (K : V G Y R F gc gs (pc + 1) L (.int (kaT.getD i 0) :: S) h) : V G Y R F gc gs pc L (.int x :: .ref 0 :: S) h := by
  intro p e s m args below meth c C H locs ls hS hH hl
  subst hx
  obtain ⟨cell, h1, h2, h3, h4, h5, h6, h7⟩ := (sf_now C hS).2.2.1
  exact W.iald (v := .int (kaT.getD i 0)) C.1 C.2.1 h1 h2 h3 (fun hh => in_nI (i := i) (n := 6) ⟨hi, by decide⟩ (hh.imp id (Nat.le_trans h4))) (by rw [nI_clamp (by omega)]; exact h6 i hi) rfl rfl hd (K p e s m args below meth c C H locs ls hS hH hl)
theorem V_bald {x : Int32} (i : Nat) (hd : decode Y.2.1 pc = .ok (.iaload, 1)) (hx : x = nI i) (hi : i < 24) (K : V G Y R F gc gs (pc + 1) L (.int (boT.getD i 0) :: S) h) : V G Y R F gc gs pc L (.int x :: .ref 1 :: S) h := by
  intro p e s m args below meth c C H locs ls hS hH hl
  subst hx
  obtain ⟨cell, h1, h2, h3, h4, h5, h6, h7⟩ := (sf_now C hS).2.2.2.1
  exact W.iald (v := .int (boT.getD i 0)) C.1 C.2.1 h1 h2 h3 (fun hh => in_nI (i := i) (n := 24) ⟨hi, by decide⟩ (hh.imp id (Nat.le_trans h4))) (by rw [nI_clamp (by omega)]; exact h6 i hi) rfl rfl hd (K p e s m args below meth c C H locs ls hS hH hl)
theorem V_getsK {idx : Nat} (hd : decode Y.2.1 pc = .ok (.getstatic idx, 3)) (w : Cond.fieldLink Y.1.cls idx "RiverSteamers" "KIND_ABOVE" "[I" ∈ TBg) (K : V G Y R F gc gs (pc + 3) L (.ref 0 :: S) h) : V G Y R F gc gs pc L S h := by
  intro p e s m args below meth c C H locs ls hS hH hl
  exact va_gets C.1 C.2.1 C.2.2.2.2.2.2.2.2.2.1.1 hS C.2.2.2.2.2.2.1 (C.2.2.2.2.2.2.2.1 _ w) (fun _ h => h) hd (K p e s m args below meth c C H locs ls hS hH hl)
theorem V_getsKN {idx : Nat} {host : String} (hd : decode Y.2.1 pc = .ok (.getstatic idx, 3)) (w : Cond.fieldLinkNest Y.1.cls idx "RiverSteamers" "KIND_ABOVE" "[I" host ∈ TBn) (K : V G Y R F gc gs (pc + 3) L (.ref 0 :: S) h) : V G Y R F gc gs pc L S h := by
  intro p e s m args below meth c C H locs ls hS hH hl
  exact va_getsN C.1 C.2.1 C.2.2.2.2.2.2.2.2.2.1.1 hS C.2.2.2.2.2.2.1 (va_Nw.use rfl (C.2.2.2.2.2.2.2.2.1.2.2.2.2 _ w)) (fun _ h => h) hd (K p e s m args below meth c C H locs ls hS hH hl)
theorem V_getsB {idx : Nat} (hd : decode Y.2.1 pc = .ok (.getstatic idx, 3)) (w : Cond.fieldLink Y.1.cls idx "RiverSteamers$Acts" "BODIES" "[I" ∈ TBg) (K : V G Y R F gc gs (pc + 3) L (.ref 1 :: S) h) : V G Y R F gc gs pc L S h := by
  intro p e s m args below meth c C H locs ls hS hH hl
  exact va_gets C.1 C.2.1 C.2.2.2.2.2.2.2.2.2.1.2.1 hS C.2.2.2.2.2.2.1 (C.2.2.2.2.2.2.2.1 _ w) (fun _ h => h) hd (K p e s m args below meth c C H locs ls hS hH hl)
theorem new_S {s : State} {H H1 : Heap} {locs : List Loc} (hS : va_S (AA G) s.heap H locs) (z : H1.size = H.size + 1) (o : ∀ q, q < H.size → H1[q]? = H[q]?) : va_S (AA G) s.heap H1 locs :=
  ⟨Nat.le_trans hS.1 (by omega), fun x h1 h2 => (o x (Nat.lt_of_lt_of_le h1 hS.1)).trans (hS.2.1 x h1 h2), hS.2.2⟩
theorem V_newI {x : Int32} (n : Nat) (hd : decode Y.2.1 pc = .ok (.newarray .int, 2)) (hx : x = nI n) (hn : n < 1000000) (hg : gc + 1 ≤ R.cells ∧ gs + n ≤ R.slots) (w : Cond.arrayClass .int ∈ TBg)
    (K : V G Y R F (gc + 1) (gs + n) (pc + 2) L (.ref h.2.2.2.2 :: S) (nw h 20 n)) : V G Y R F gc gs pc L (.int x :: S) h := by
  intro p e s m args below meth c C H locs ls hS hH hl
  subst hx
  have hcl := nI_clamp (n := n) (by omega)
  refine va_newaK (atype := .int) C.1 C.2.1 (C.2.2.2.2.2.2.2.1 _ w) rfl hd rfl (nI_pos (by omega)) hcl (by show n * 4 ≤ _; omega) hg.1 hg.2 rfl (fun H1 cA e1 z1 o1 a1 f1 => ?_)
  have hcA : cA = G.2.2.2.2.1 0 := Option.some.inj (f1.symm.trans C.2.2.2.2.2.2.2.2.1.2.1.2)
  subst hcA
  have k := K p e s m args below meth c C H1 locs ls (new_S hS z1 o1) (hH.new z1 o1 rfl (fun j hj => by simp [nw, hj]) (by
    refine Or.inr (Or.inl ⟨by simp [nw], ?_⟩)
    rw [e1]
    simp [nw]
    rfl)) hl
  rw [hH.nx]
  exact k
theorem V_newZ {x : Int32} (n : Nat) (hd : decode Y.2.1 pc = .ok (.newarray .boolean, 2)) (hx : x = nI n) (hn : n < 1000000) (hg : gc + 1 ≤ R.cells ∧ gs + n ≤ R.slots) (w : Cond.arrayClass .boolean ∈ TBg)
    (K : V G Y R F (gc + 1) (gs + n) (pc + 2) L (.ref h.2.2.2.2 :: S) (nw h 21 n)) : V G Y R F gc gs pc L (.int x :: S) h := by
  intro p e s m args below meth c C H locs ls hS hH hl
  subst hx
  have hcl := nI_clamp (n := n) (by omega)
  refine va_newaK (atype := .boolean) C.1 C.2.1 (C.2.2.2.2.2.2.2.1 _ w) rfl hd rfl (nI_pos (by omega)) hcl (by show n * 1 ≤ _; omega) hg.1 hg.2 rfl (fun H1 cA e1 z1 o1 a1 f1 => ?_)
  have hcA : cA = G.2.2.2.2.1 1 := Option.some.inj (f1.symm.trans C.2.2.2.2.2.2.2.2.1.2.2.1.2)
  subst hcA
  have k := K p e s m args below meth c C H1 locs ls (new_S hS z1 o1) (hH.new z1 o1 rfl (fun j hj => by simp [nw, hj]) (by
    refine Or.inr (Or.inr (Or.inl ⟨by simp [nw], ?_, fun j _ => Or.inl (by simp [nw])⟩))
    rw [e1]
    simp [nw]
    rfl)) hl
  rw [hH.nx]
  exact k
theorem V_newQ {x : Int32} {idx c : Nat} {q : vw_C} (n : Nat) (hd : decode Y.2.1 pc = .ok (.anewarray idx, 3)) (hc : c ∈ arrCs) (hq : cl_[c]? = some q) (w : Cond.classLink Y.1.cls idx q.1 ∈ TBg) (hx : x = nI n) (hn : n < 1000000) (hg : gc + 1 ≤ R.cells ∧ gs + n ≤ R.slots)
    (K : V G Y R F (gc + 1) (gs + n) (pc + 3) L (.ref h.2.2.2.2 :: S) (nw h (c + 40) n)) : V G Y R F gc gs pc L (.int x :: S) h := by
  intro p e s m args below meth cd C H locs ls hS hH hl
  subst hx
  have hcl := nI_clamp (n := n) (by omega)
  obtain ⟨a1, a2, a3⟩ := C.2.2.2.2.2.2.2.2.1.2.2.2.1 c hc q hq
  refine W.anew C.1 C.2.1 C.2.2.2.2.2.2.1 (C.2.2.2.2.2.2.2.1 _ w) (va_AO.use a3) rfl hd rfl (nI_pos (by omega)) (by rw [hcl]; omega) hg.1 (by rw [hcl]; exact hg.2) (fun cA kA comp f1 f2 f3 f4 => ?_)
  rw [hcl]
  obtain ⟨kA', comp', b1, b2, b3, b4⟩ := a2
  have hcA : cA = G.2.2.2.2.1 (c + 2) := Option.some.inj (f1.symm.trans b4)
  subst hcA
  generalize hH1 : H.push ({ cls := G.2.2.2.2.1 (c + 2), slots := Array.replicate n .null, vm := .none } : Cell) = H1
  have z1 : H1.size = H.size + 1 := by rw [← hH1, Array.size_push]
  have e1 : H1[H.size]? = some (arrV (G.2.2.2.2.1 (c + 2)) n (fun _ => .null)) := by rw [← hH1, Array.getElem?_push_size, ← arrV_new]
  have o1 : ∀ q : Nat, q < H.size → H1[q]? = H[q]? := fun q hq => by rw [← hH1, Array.getElem?_push, if_neg (Nat.ne_of_lt hq)]
  have k := K p e s m args below meth cd C H1 locs ls (new_S hS z1 o1) (hH.new z1 o1 rfl (fun j hj => by simp [nw, hj]) (by
    refine Or.inr (Or.inr (Or.inr ⟨c, by simp [nw], ?_⟩))
    rw [e1]
    simp [nw, rv])) hl
  rw [hH.nx]
  exact k
theorem V_newC {idx c : Nat} {q : vw_C} (hd : decode Y.2.1 pc = .ok (.new idx, 3)) (hq : cl_[c]? = some q) (w1 : Cond.classLink Y.1.cls idx q.1 ∈ TBg) (w2 : Cond.instantiable q.1 q.2.2 ∈ TBg) (w3 : Cond.initialized q.1 ∈ TBg)
    (hz : ∀ ty : Nat → FieldType, (∀ k, k < q.2.2 → parseFieldDescriptor (q.2.1 k).2.2.1 = some (ty k)) → ∀ j, j < q.2.2 → defaultValue (ty j) = if isR c j = true then .null else .int 0) (hg : gc + 1 ≤ R.cells ∧ gs + q.2.2 ≤ R.slots)
    (K : V G Y R F (gc + 1) (gs + q.2.2) (pc + 3) L (.ref h.2.2.2.2 :: S) (nw h (c + 1) 0)) : V G Y R F gc gs pc L S h := by
  intro p e s m args below meth cd C H locs ls hS hH hl
  have hts := C.2.2.2.2.2.2.2.1
  have hKn := C.2.2.2.2.2.2.2.2.1.1 c q hq
  obtain ⟨ty, hty⟩ := cl_ty c q hq
  refine W.newcK C.1 C.2.1 C.2.2.2.2.2.2.1 (hts _ w1) (hts _ w2) (hts _ w3) rfl hd hg.1 hg.2 hKn.2.1 rfl (fun H1 kC hkC e1 z1 o1 => ?_)
  have k := K p e s m args below meth cd C H1 locs ls (new_S hS z1 o1) (hH.new z1 o1 rfl (fun j hj => by simp [nw, hj]) (by
    refine Or.inl ⟨c, q, by simp [nw], hq, (u_born ty hts (cl_in c q hq) hKn hkC e1 hty).to (fun j hj => ?_), fun _ => Or.inl (by simp [nw])⟩
    rw [hz ty hty j hj]
    simp [nw, rv])) hl
  rw [hH.nx]
  exact k
/-- what the heap says may be used -/
theorem V_hr {P : Prop} (hP : ∀ H, HR G h H → P) (K : P → V G Y R F gc gs pc L S h) : V G Y R F gc gs pc L S h := by
  intro p e s m args below meth c C H locs ls hS hH hl
  exact K (hP H hH) p e s m args below meth c C H locs ls hS hH hl
end RA
end
