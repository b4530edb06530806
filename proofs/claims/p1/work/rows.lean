section
-- ===== PART A: goes FIRST, ahead of the names: the tables' words, and 'selects' of the private methods out of them =====
/-- a private method of a class that the tables say can be made, by its rows of tables_1 -/
def lw_okq (q : MethodName × Nat) : Prop := (q.1.cls ≠ "java/lang/invoke/MethodHandle" ∧ q.1.cls ≠ "java/lang/invoke/VarHandle") ∧ Cond.instantiable q.1.cls q.2 ∈ tables_1 ∧ Cond.privateMethod q.1 ∈ tables_1 ∧ Cond.instanceMethod q.1 ∈ tables_1
theorem lw_p0 : lw_okq (⟨"EclipseCheese", "putBytes", "(I)V"⟩, 18) := ⟨⟨by decide +kernel, by decide +kernel⟩, List.mem_of_getElem? (i := 26) (by decide +kernel), List.mem_of_getElem? (i := 511) (by decide +kernel), List.mem_of_getElem? (i := 512) (by decide +kernel)⟩
theorem lw_p1 : lw_okq (⟨"EclipseCheese", "refused", "(I)I"⟩, 18) := ⟨⟨by decide +kernel, by decide +kernel⟩, List.mem_of_getElem? (i := 26) (by decide +kernel), List.mem_of_getElem? (i := 519) (by decide +kernel), List.mem_of_getElem? (i := 520) (by decide +kernel)⟩
theorem lw_p2 : lw_okq (⟨"EclipseCheese$Reader", "step", "()V"⟩, 17) := ⟨⟨by decide +kernel, by decide +kernel⟩, List.mem_of_getElem? (i := 233) (by decide +kernel), List.mem_of_getElem? (i := 531) (by decide +kernel), List.mem_of_getElem? (i := 532) (by decide +kernel)⟩
theorem lw_p3 : lw_okq (⟨"EclipseCheese$Reader", "stepWord", "()I"⟩, 17) := ⟨⟨by decide +kernel, by decide +kernel⟩, List.mem_of_getElem? (i := 233) (by decide +kernel), List.mem_of_getElem? (i := 535) (by decide +kernel), List.mem_of_getElem? (i := 536) (by decide +kernel)⟩
theorem lw_p4 : lw_okq (⟨"EclipseCheese$Reader", "stepWhole", "()I"⟩, 17) := ⟨⟨by decide +kernel, by decide +kernel⟩, List.mem_of_getElem? (i := 233) (by decide +kernel), List.mem_of_getElem? (i := 541) (by decide +kernel), List.mem_of_getElem? (i := 542) (by decide +kernel)⟩
theorem lw_p5 : lw_okq (⟨"EclipseCheese$Reader", "readLine", "()Z"⟩, 17) := ⟨⟨by decide +kernel, by decide +kernel⟩, List.mem_of_getElem? (i := 233) (by decide +kernel), List.mem_of_getElem? (i := 545) (by decide +kernel), List.mem_of_getElem? (i := 546) (by decide +kernel)⟩
theorem lw_p6 : lw_okq (⟨"EclipseCheese$Reader", "sortOfWord", "()I"⟩, 17) := ⟨⟨by decide +kernel, by decide +kernel⟩, List.mem_of_getElem? (i := 233) (by decide +kernel), List.mem_of_getElem? (i := 549) (by decide +kernel), List.mem_of_getElem? (i := 550) (by decide +kernel)⟩
theorem lw_p7 : lw_okq (⟨"EclipseCheese$Reader", "fail", "(I)Z"⟩, 17) := ⟨⟨by decide +kernel, by decide +kernel⟩, List.mem_of_getElem? (i := 233) (by decide +kernel), List.mem_of_getElem? (i := 618) (by decide +kernel), List.mem_of_getElem? (i := 619) (by decide +kernel)⟩
theorem lw_p8 : lw_okq (⟨"EclipseCheese$Reader", "isToldAgain", "(I)Z"⟩, 17) := ⟨⟨by decide +kernel, by decide +kernel⟩, List.mem_of_getElem? (i := 233) (by decide +kernel), List.mem_of_getElem? (i := 622) (by decide +kernel), List.mem_of_getElem? (i := 623) (by decide +kernel)⟩
theorem lw_p9 : lw_okq (⟨"EclipseCheese$Reader", "isFull", "(I)Z"⟩, 17) := ⟨⟨by decide +kernel, by decide +kernel⟩, List.mem_of_getElem? (i := 233) (by decide +kernel), List.mem_of_getElem? (i := 626) (by decide +kernel), List.mem_of_getElem? (i := 627) (by decide +kernel)⟩
theorem lw_p10 : lw_okq (⟨"EclipseCheese$Reader", "readAlp", "()Z"⟩, 17) := ⟨⟨by decide +kernel, by decide +kernel⟩, List.mem_of_getElem? (i := 233) (by decide +kernel), List.mem_of_getElem? (i := 630) (by decide +kernel), List.mem_of_getElem? (i := 631) (by decide +kernel)⟩
theorem lw_p11 : lw_okq (⟨"EclipseCheese$Reader", "takeWord", "(Ljava/lang/String;)Z"⟩, 17) := ⟨⟨by decide +kernel, by decide +kernel⟩, List.mem_of_getElem? (i := 233) (by decide +kernel), List.mem_of_getElem? (i := 635) (by decide +kernel), List.mem_of_getElem? (i := 636) (by decide +kernel)⟩
theorem lw_p12 : lw_okq (⟨"EclipseCheese$Reader", "seesWord", "(Ljava/lang/String;)Z"⟩, 17) := ⟨⟨by decide +kernel, by decide +kernel⟩, List.mem_of_getElem? (i := 233) (by decide +kernel), List.mem_of_getElem? (i := 639) (by decide +kernel), List.mem_of_getElem? (i := 640) (by decide +kernel)⟩
theorem lw_p13 : lw_okq (⟨"EclipseCheese$Reader", "takeWhole", "(II)Z"⟩, 17) := ⟨⟨by decide +kernel, by decide +kernel⟩, List.mem_of_getElem? (i := 233) (by decide +kernel), List.mem_of_getElem? (i := 643) (by decide +kernel), List.mem_of_getElem? (i := 644) (by decide +kernel)⟩
theorem lw_p14 : lw_okq (⟨"EclipseCheese$Reader", "seesWhole", "(II)Z"⟩, 17) := ⟨⟨by decide +kernel, by decide +kernel⟩, List.mem_of_getElem? (i := 233) (by decide +kernel), List.mem_of_getElem? (i := 647) (by decide +kernel), List.mem_of_getElem? (i := 648) (by decide +kernel)⟩
theorem lw_p15 : lw_okq (⟨"EclipseCheese$Reader", "takeComma", "()Z"⟩, 17) := ⟨⟨by decide +kernel, by decide +kernel⟩, List.mem_of_getElem? (i := 233) (by decide +kernel), List.mem_of_getElem? (i := 653) (by decide +kernel), List.mem_of_getElem? (i := 654) (by decide +kernel)⟩
def lw_privs_1 : List (MethodName × Nat) := [(⟨"EclipseCheese", "putBytes", "(I)V"⟩, 18), (⟨"EclipseCheese", "refused", "(I)I"⟩, 18), (⟨"EclipseCheese$Reader", "step", "()V"⟩, 17), (⟨"EclipseCheese$Reader", "stepWord", "()I"⟩, 17), (⟨"EclipseCheese$Reader", "stepWhole", "()I"⟩, 17), (⟨"EclipseCheese$Reader", "readLine", "()Z"⟩, 17), (⟨"EclipseCheese$Reader", "sortOfWord", "()I"⟩, 17), (⟨"EclipseCheese$Reader", "fail", "(I)Z"⟩, 17), (⟨"EclipseCheese$Reader", "isToldAgain", "(I)Z"⟩, 17), (⟨"EclipseCheese$Reader", "isFull", "(I)Z"⟩, 17), (⟨"EclipseCheese$Reader", "readAlp", "()Z"⟩, 17), (⟨"EclipseCheese$Reader", "takeWord", "(Ljava/lang/String;)Z"⟩, 17), (⟨"EclipseCheese$Reader", "seesWord", "(Ljava/lang/String;)Z"⟩, 17), (⟨"EclipseCheese$Reader", "takeWhole", "(II)Z"⟩, 17), (⟨"EclipseCheese$Reader", "seesWhole", "(II)Z"⟩, 17), (⟨"EclipseCheese$Reader", "takeComma", "()Z"⟩, 17)]
theorem lw_r1 : ∀ q ∈ lw_privs_1, lw_okq q := List.forall_mem_cons.mpr ⟨lw_p0, List.forall_mem_cons.mpr ⟨lw_p1, List.forall_mem_cons.mpr ⟨lw_p2, List.forall_mem_cons.mpr ⟨lw_p3, List.forall_mem_cons.mpr ⟨lw_p4, List.forall_mem_cons.mpr ⟨lw_p5, List.forall_mem_cons.mpr ⟨lw_p6, List.forall_mem_cons.mpr ⟨lw_p7, List.forall_mem_cons.mpr ⟨lw_p8, List.forall_mem_cons.mpr ⟨lw_p9, List.forall_mem_cons.mpr ⟨lw_p10, List.forall_mem_cons.mpr ⟨lw_p11, List.forall_mem_cons.mpr ⟨lw_p12, List.forall_mem_cons.mpr ⟨lw_p13, List.forall_mem_cons.mpr ⟨lw_p14, List.forall_mem_cons.mpr ⟨lw_p15, fun _ h => absurd h List.not_mem_nil⟩⟩⟩⟩⟩⟩⟩⟩⟩⟩⟩⟩⟩⟩⟩⟩
theorem lw_p16 : lw_okq (⟨"EclipseCheese$Reader", "readCheese", "()Z"⟩, 17) := ⟨⟨by decide +kernel, by decide +kernel⟩, List.mem_of_getElem? (i := 233) (by decide +kernel), List.mem_of_getElem? (i := 657) (by decide +kernel), List.mem_of_getElem? (i := 658) (by decide +kernel)⟩
theorem lw_p17 : lw_okq (⟨"EclipseCheese$Reader", "seesNewName", "()Z"⟩, 17) := ⟨⟨by decide +kernel, by decide +kernel⟩, List.mem_of_getElem? (i := 233) (by decide +kernel), List.mem_of_getElem? (i := 661) (by decide +kernel), List.mem_of_getElem? (i := 662) (by decide +kernel)⟩
theorem lw_p18 : lw_okq (⟨"EclipseCheese$Reader", "seesName", "()Z"⟩, 17) := ⟨⟨by decide +kernel, by decide +kernel⟩, List.mem_of_getElem? (i := 233) (by decide +kernel), List.mem_of_getElem? (i := 665) (by decide +kernel), List.mem_of_getElem? (i := 666) (by decide +kernel)⟩
theorem lw_p19 : lw_okq (⟨"EclipseCheese$Reader", "isToldCheese", "()Z"⟩, 17) := ⟨⟨by decide +kernel, by decide +kernel⟩, List.mem_of_getElem? (i := 233) (by decide +kernel), List.mem_of_getElem? (i := 670) (by decide +kernel), List.mem_of_getElem? (i := 671) (by decide +kernel)⟩
theorem lw_p20 : lw_okq (⟨"EclipseCheese$Reader", "namedTurner", "()I"⟩, 17) := ⟨⟨by decide +kernel, by decide +kernel⟩, List.mem_of_getElem? (i := 233) (by decide +kernel), List.mem_of_getElem? (i := 674) (by decide +kernel), List.mem_of_getElem? (i := 675) (by decide +kernel)⟩
theorem lw_p21 : lw_okq (⟨"EclipseCheese$Reader", "takeHut", "()Z"⟩, 17) := ⟨⟨by decide +kernel, by decide +kernel⟩, List.mem_of_getElem? (i := 233) (by decide +kernel), List.mem_of_getElem? (i := 679) (by decide +kernel), List.mem_of_getElem? (i := 680) (by decide +kernel)⟩
theorem lw_p22 : lw_okq (⟨"EclipseCheese$Reader", "readMinutes", "(LEclipseCheese$Minutes;)Z"⟩, 17) := ⟨⟨by decide +kernel, by decide +kernel⟩, List.mem_of_getElem? (i := 233) (by decide +kernel), List.mem_of_getElem? (i := 683) (by decide +kernel), List.mem_of_getElem? (i := 684) (by decide +kernel)⟩
theorem lw_p23 : lw_okq (⟨"EclipseCheese$Reader", "readTurner", "()Z"⟩, 17) := ⟨⟨by decide +kernel, by decide +kernel⟩, List.mem_of_getElem? (i := 233) (by decide +kernel), List.mem_of_getElem? (i := 687) (by decide +kernel), List.mem_of_getElem? (i := 688) (by decide +kernel)⟩
theorem lw_p24 : lw_okq (⟨"EclipseCheese$Reader", "turnerKind", "()I"⟩, 17) := ⟨⟨by decide +kernel, by decide +kernel⟩, List.mem_of_getElem? (i := 233) (by decide +kernel), List.mem_of_getElem? (i := 691) (by decide +kernel), List.mem_of_getElem? (i := 692) (by decide +kernel)⟩
theorem lw_p25 : lw_okq (⟨"EclipseCheese$Reader", "takeSpan", "()Z"⟩, 17) := ⟨⟨by decide +kernel, by decide +kernel⟩, List.mem_of_getElem? (i := 233) (by decide +kernel), List.mem_of_getElem? (i := 699) (by decide +kernel), List.mem_of_getElem? (i := 700) (by decide +kernel)⟩
theorem lw_p26 : lw_okq (⟨"EclipseCheese$Reader", "readHuts", "(LEclipseCheese$Turner;)Z"⟩, 17) := ⟨⟨by decide +kernel, by decide +kernel⟩, List.mem_of_getElem? (i := 233) (by decide +kernel), List.mem_of_getElem? (i := 706) (by decide +kernel), List.mem_of_getElem? (i := 707) (by decide +kernel)⟩
theorem lw_p27 : lw_okq (⟨"EclipseCheese$Reader", "readCall", "()Z"⟩, 17) := ⟨⟨by decide +kernel, by decide +kernel⟩, List.mem_of_getElem? (i := 233) (by decide +kernel), List.mem_of_getElem? (i := 713) (by decide +kernel), List.mem_of_getElem? (i := 714) (by decide +kernel)⟩
theorem lw_p28 : lw_okq (⟨"EclipseCheese$Reader", "readEvent", "(I)Z"⟩, 17) := ⟨⟨by decide +kernel, by decide +kernel⟩, List.mem_of_getElem? (i := 233) (by decide +kernel), List.mem_of_getElem? (i := 720) (by decide +kernel), List.mem_of_getElem? (i := 721) (by decide +kernel)⟩
theorem lw_p29 : lw_okq (⟨"EclipseCheese", "cloudsMoved", "()V"⟩, 18) := ⟨⟨by decide +kernel, by decide +kernel⟩, List.mem_of_getElem? (i := 26) (by decide +kernel), List.mem_of_getElem? (i := 732) (by decide +kernel), List.mem_of_getElem? (i := 733) (by decide +kernel)⟩
theorem lw_p30 : lw_okq (⟨"EclipseCheese", "answered", "(I)I"⟩, 18) := ⟨⟨by decide +kernel, by decide +kernel⟩, List.mem_of_getElem? (i := 26) (by decide +kernel), List.mem_of_getElem? (i := 736) (by decide +kernel), List.mem_of_getElem? (i := 737) (by decide +kernel)⟩
theorem lw_p31 : lw_okq (⟨"EclipseCheese", "isMinute", "(I)Z"⟩, 18) := ⟨⟨by decide +kernel, by decide +kernel⟩, List.mem_of_getElem? (i := 26) (by decide +kernel), List.mem_of_getElem? (i := 752) (by decide +kernel), List.mem_of_getElem? (i := 753) (by decide +kernel)⟩
def lw_privs_2 : List (MethodName × Nat) := [(⟨"EclipseCheese$Reader", "readCheese", "()Z"⟩, 17), (⟨"EclipseCheese$Reader", "seesNewName", "()Z"⟩, 17), (⟨"EclipseCheese$Reader", "seesName", "()Z"⟩, 17), (⟨"EclipseCheese$Reader", "isToldCheese", "()Z"⟩, 17), (⟨"EclipseCheese$Reader", "namedTurner", "()I"⟩, 17), (⟨"EclipseCheese$Reader", "takeHut", "()Z"⟩, 17), (⟨"EclipseCheese$Reader", "readMinutes", "(LEclipseCheese$Minutes;)Z"⟩, 17), (⟨"EclipseCheese$Reader", "readTurner", "()Z"⟩, 17), (⟨"EclipseCheese$Reader", "turnerKind", "()I"⟩, 17), (⟨"EclipseCheese$Reader", "takeSpan", "()Z"⟩, 17), (⟨"EclipseCheese$Reader", "readHuts", "(LEclipseCheese$Turner;)Z"⟩, 17), (⟨"EclipseCheese$Reader", "readCall", "()Z"⟩, 17), (⟨"EclipseCheese$Reader", "readEvent", "(I)Z"⟩, 17), (⟨"EclipseCheese", "cloudsMoved", "()V"⟩, 18), (⟨"EclipseCheese", "answered", "(I)I"⟩, 18), (⟨"EclipseCheese", "isMinute", "(I)Z"⟩, 18)]
theorem lw_r2 : ∀ q ∈ lw_privs_2, lw_okq q := List.forall_mem_cons.mpr ⟨lw_p16, List.forall_mem_cons.mpr ⟨lw_p17, List.forall_mem_cons.mpr ⟨lw_p18, List.forall_mem_cons.mpr ⟨lw_p19, List.forall_mem_cons.mpr ⟨lw_p20, List.forall_mem_cons.mpr ⟨lw_p21, List.forall_mem_cons.mpr ⟨lw_p22, List.forall_mem_cons.mpr ⟨lw_p23, List.forall_mem_cons.mpr ⟨lw_p24, List.forall_mem_cons.mpr ⟨lw_p25, List.forall_mem_cons.mpr ⟨lw_p26, List.forall_mem_cons.mpr ⟨lw_p27, List.forall_mem_cons.mpr ⟨lw_p28, List.forall_mem_cons.mpr ⟨lw_p29, List.forall_mem_cons.mpr ⟨lw_p30, List.forall_mem_cons.mpr ⟨lw_p31, fun _ h => absurd h List.not_mem_nil⟩⟩⟩⟩⟩⟩⟩⟩⟩⟩⟩⟩⟩⟩⟩⟩
theorem lw_p32 : lw_okq (⟨"EclipseCheese", "presentSky", "()LEclipseCheese$Sky;"⟩, 18) := ⟨⟨by decide +kernel, by decide +kernel⟩, List.mem_of_getElem? (i := 26) (by decide +kernel), List.mem_of_getElem? (i := 756) (by decide +kernel), List.mem_of_getElem? (i := 757) (by decide +kernel)⟩
theorem lw_p33 : lw_okq (⟨"EclipseCheese$Sky", "wipe", "()V"⟩, 12) := ⟨⟨by decide +kernel, by decide +kernel⟩, List.mem_of_getElem? (i := 348) (by decide +kernel), List.mem_of_getElem? (i := 764) (by decide +kernel), List.mem_of_getElem? (i := 765) (by decide +kernel)⟩
theorem lw_p34 : lw_okq (⟨"EclipseCheese$Sky", "layEvent", "(LEclipseCheese$Event;)V"⟩, 12) := ⟨⟨by decide +kernel, by decide +kernel⟩, List.mem_of_getElem? (i := 348) (by decide +kernel), List.mem_of_getElem? (i := 768) (by decide +kernel), List.mem_of_getElem? (i := 769) (by decide +kernel)⟩
theorem lw_p35 : lw_okq (⟨"EclipseCheese$Sky", "layCloud", "(II)V"⟩, 12) := ⟨⟨by decide +kernel, by decide +kernel⟩, List.mem_of_getElem? (i := 348) (by decide +kernel), List.mem_of_getElem? (i := 772) (by decide +kernel), List.mem_of_getElem? (i := 773) (by decide +kernel)⟩
theorem lw_p36 : lw_okq (⟨"EclipseCheese$Sky", "findLight", "()V"⟩, 12) := ⟨⟨by decide +kernel, by decide +kernel⟩, List.mem_of_getElem? (i := 348) (by decide +kernel), List.mem_of_getElem? (i := 776) (by decide +kernel), List.mem_of_getElem? (i := 777) (by decide +kernel)⟩
theorem lw_p37 : lw_okq (⟨"EclipseCheese$Sky", "findStirs", "(LEclipseCheese$Minutes;)V"⟩, 12) := ⟨⟨by decide +kernel, by decide +kernel⟩, List.mem_of_getElem? (i := 348) (by decide +kernel), List.mem_of_getElem? (i := 784) (by decide +kernel), List.mem_of_getElem? (i := 785) (by decide +kernel)⟩
theorem lw_p38 : lw_okq (⟨"EclipseCheese", "isHut", "(I)Z"⟩, 18) := ⟨⟨by decide +kernel, by decide +kernel⟩, List.mem_of_getElem? (i := 26) (by decide +kernel), List.mem_of_getElem? (i := 797) (by decide +kernel), List.mem_of_getElem? (i := 798) (by decide +kernel)⟩
theorem lw_p39 : lw_okq (⟨"EclipseCheese", "isTurner", "(I)Z"⟩, 18) := ⟨⟨by decide +kernel, by decide +kernel⟩, List.mem_of_getElem? (i := 26) (by decide +kernel), List.mem_of_getElem? (i := 827) (by decide +kernel), List.mem_of_getElem? (i := 828) (by decide +kernel)⟩
theorem lw_p40 : lw_okq (⟨"EclipseCheese", "presentNight", "()LEclipseCheese$Night;"⟩, 18) := ⟨⟨by decide +kernel, by decide +kernel⟩, List.mem_of_getElem? (i := 26) (by decide +kernel), List.mem_of_getElem? (i := 831) (by decide +kernel), List.mem_of_getElem? (i := 832) (by decide +kernel)⟩
theorem lw_p41 : lw_okq (⟨"EclipseCheese", "allTurners", "()I"⟩, 18) := ⟨⟨by decide +kernel, by decide +kernel⟩, List.mem_of_getElem? (i := 26) (by decide +kernel), List.mem_of_getElem? (i := 835) (by decide +kernel), List.mem_of_getElem? (i := 836) (by decide +kernel)⟩
theorem lw_p42 : lw_okq (⟨"EclipseCheese$Night", "forget", "()V"⟩, 12) := ⟨⟨by decide +kernel, by decide +kernel⟩, List.mem_of_getElem? (i := 402) (by decide +kernel), List.mem_of_getElem? (i := 843) (by decide +kernel), List.mem_of_getElem? (i := 844) (by decide +kernel)⟩
theorem lw_p43 : lw_okq (⟨"EclipseCheese$Night", "turnAll", "(II)I"⟩, 12) := ⟨⟨by decide +kernel, by decide +kernel⟩, List.mem_of_getElem? (i := 402) (by decide +kernel), List.mem_of_getElem? (i := 850) (by decide +kernel), List.mem_of_getElem? (i := 851) (by decide +kernel)⟩
theorem lw_p44 : lw_okq (⟨"EclipseCheese$Night", "isCalled", "(II)Z"⟩, 12) := ⟨⟨by decide +kernel, by decide +kernel⟩, List.mem_of_getElem? (i := 402) (by decide +kernel), List.mem_of_getElem? (i := 864) (by decide +kernel), List.mem_of_getElem? (i := 865) (by decide +kernel)⟩
theorem lw_p45 : lw_okq (⟨"EclipseCheese$Night", "turnSome", "(IIII)I"⟩, 12) := ⟨⟨by decide +kernel, by decide +kernel⟩, List.mem_of_getElem? (i := 402) (by decide +kernel), List.mem_of_getElem? (i := 868) (by decide +kernel), List.mem_of_getElem? (i := 869) (by decide +kernel)⟩
theorem lw_p46 : lw_okq (⟨"EclipseCheese$Night", "judge", "(III)V"⟩, 12) := ⟨⟨by decide +kernel, by decide +kernel⟩, List.mem_of_getElem? (i := 402) (by decide +kernel), List.mem_of_getElem? (i := 872) (by decide +kernel), List.mem_of_getElem? (i := 873) (by decide +kernel)⟩
theorem lw_p47 : lw_okq (⟨"EclipseCheese", "refusedTotal", "(I)I"⟩, 18) := ⟨⟨by decide +kernel, by decide +kernel⟩, List.mem_of_getElem? (i := 26) (by decide +kernel), List.mem_of_getElem? (i := 898) (by decide +kernel), List.mem_of_getElem? (i := 899) (by decide +kernel)⟩
def lw_privs_3 : List (MethodName × Nat) := [(⟨"EclipseCheese", "presentSky", "()LEclipseCheese$Sky;"⟩, 18), (⟨"EclipseCheese$Sky", "wipe", "()V"⟩, 12), (⟨"EclipseCheese$Sky", "layEvent", "(LEclipseCheese$Event;)V"⟩, 12), (⟨"EclipseCheese$Sky", "layCloud", "(II)V"⟩, 12), (⟨"EclipseCheese$Sky", "findLight", "()V"⟩, 12), (⟨"EclipseCheese$Sky", "findStirs", "(LEclipseCheese$Minutes;)V"⟩, 12), (⟨"EclipseCheese", "isHut", "(I)Z"⟩, 18), (⟨"EclipseCheese", "isTurner", "(I)Z"⟩, 18), (⟨"EclipseCheese", "presentNight", "()LEclipseCheese$Night;"⟩, 18), (⟨"EclipseCheese", "allTurners", "()I"⟩, 18), (⟨"EclipseCheese$Night", "forget", "()V"⟩, 12), (⟨"EclipseCheese$Night", "turnAll", "(II)I"⟩, 12), (⟨"EclipseCheese$Night", "isCalled", "(II)Z"⟩, 12), (⟨"EclipseCheese$Night", "turnSome", "(IIII)I"⟩, 12), (⟨"EclipseCheese$Night", "judge", "(III)V"⟩, 12), (⟨"EclipseCheese", "refusedTotal", "(I)I"⟩, 18)]
theorem lw_r3 : ∀ q ∈ lw_privs_3, lw_okq q := List.forall_mem_cons.mpr ⟨lw_p32, List.forall_mem_cons.mpr ⟨lw_p33, List.forall_mem_cons.mpr ⟨lw_p34, List.forall_mem_cons.mpr ⟨lw_p35, List.forall_mem_cons.mpr ⟨lw_p36, List.forall_mem_cons.mpr ⟨lw_p37, List.forall_mem_cons.mpr ⟨lw_p38, List.forall_mem_cons.mpr ⟨lw_p39, List.forall_mem_cons.mpr ⟨lw_p40, List.forall_mem_cons.mpr ⟨lw_p41, List.forall_mem_cons.mpr ⟨lw_p42, List.forall_mem_cons.mpr ⟨lw_p43, List.forall_mem_cons.mpr ⟨lw_p44, List.forall_mem_cons.mpr ⟨lw_p45, List.forall_mem_cons.mpr ⟨lw_p46, List.forall_mem_cons.mpr ⟨lw_p47, fun _ h => absurd h List.not_mem_nil⟩⟩⟩⟩⟩⟩⟩⟩⟩⟩⟩⟩⟩⟩⟩⟩
theorem lw_p48 : lw_okq (⟨"EclipseCheese", "isCheese", "(I)Z"⟩, 18) := ⟨⟨by decide +kernel, by decide +kernel⟩, List.mem_of_getElem? (i := 26) (by decide +kernel), List.mem_of_getElem? (i := 922) (by decide +kernel), List.mem_of_getElem? (i := 923) (by decide +kernel)⟩
theorem lw_p49 : lw_okq (⟨"EclipseCheese$Night", "isTurned", "(II)Z"⟩, 12) := ⟨⟨by decide +kernel, by decide +kernel⟩, List.mem_of_getElem? (i := 402) (by decide +kernel), List.mem_of_getElem? (i := 938) (by decide +kernel), List.mem_of_getElem? (i := 939) (by decide +kernel)⟩
theorem lw_p50 : lw_okq (⟨"EclipseCheese", "veinMinute", "(II)I"⟩, 18) := ⟨⟨by decide +kernel, by decide +kernel⟩, List.mem_of_getElem? (i := 26) (by decide +kernel), List.mem_of_getElem? (i := 952) (by decide +kernel), List.mem_of_getElem? (i := 953) (by decide +kernel)⟩
theorem lw_p51 : lw_okq (⟨"EclipseCheese", "eventCount", "()I"⟩, 18) := ⟨⟨by decide +kernel, by decide +kernel⟩, List.mem_of_getElem? (i := 26) (by decide +kernel), List.mem_of_getElem? (i := 964) (by decide +kernel), List.mem_of_getElem? (i := 965) (by decide +kernel)⟩
theorem lw_p52 : lw_okq (⟨"EclipseCheese", "eventFrom", "(I)I"⟩, 18) := ⟨⟨by decide +kernel, by decide +kernel⟩, List.mem_of_getElem? (i := 26) (by decide +kernel), List.mem_of_getElem? (i := 968) (by decide +kernel), List.mem_of_getElem? (i := 969) (by decide +kernel)⟩
theorem lw_p53 : lw_okq (⟨"EclipseCheese", "eventTo", "(I)I"⟩, 18) := ⟨⟨by decide +kernel, by decide +kernel⟩, List.mem_of_getElem? (i := 26) (by decide +kernel), List.mem_of_getElem? (i := 972) (by decide +kernel), List.mem_of_getElem? (i := 973) (by decide +kernel)⟩
theorem lw_p54 : lw_okq (⟨"EclipseCheese", "isEvent", "(I)Z"⟩, 18) := ⟨⟨by decide +kernel, by decide +kernel⟩, List.mem_of_getElem? (i := 26) (by decide +kernel), List.mem_of_getElem? (i := 984) (by decide +kernel), List.mem_of_getElem? (i := 985) (by decide +kernel)⟩
theorem lw_p55 : lw_okq (⟨"EclipseCheese", "bestCalls", "()I"⟩, 18) := ⟨⟨by decide +kernel, by decide +kernel⟩, List.mem_of_getElem? (i := 26) (by decide +kernel), List.mem_of_getElem? (i := 992) (by decide +kernel), List.mem_of_getElem? (i := 993) (by decide +kernel)⟩
theorem lw_p56 : lw_okq (⟨"EclipseCheese", "allCalls", "()I"⟩, 18) := ⟨⟨by decide +kernel, by decide +kernel⟩, List.mem_of_getElem? (i := 26) (by decide +kernel), List.mem_of_getElem? (i := 996) (by decide +kernel), List.mem_of_getElem? (i := 997) (by decide +kernel)⟩
theorem lw_p57 : lw_okq (⟨"EclipseCheese", "fewestTurners", "()I"⟩, 18) := ⟨⟨by decide +kernel, by decide +kernel⟩, List.mem_of_getElem? (i := 26) (by decide +kernel), List.mem_of_getElem? (i := 1014) (by decide +kernel), List.mem_of_getElem? (i := 1015) (by decide +kernel)⟩
theorem lw_p58 : lw_okq (⟨"EclipseCheese", "isSlice", "(I)Z"⟩, 18) := ⟨⟨by decide +kernel, by decide +kernel⟩, List.mem_of_getElem? (i := 26) (by decide +kernel), List.mem_of_getElem? (i := 1030) (by decide +kernel), List.mem_of_getElem? (i := 1031) (by decide +kernel)⟩
theorem lw_p59 : lw_okq (⟨"EclipseCheese$Night", "hasJustVeins", "(ILEclipseCheese$Minutes;)Z"⟩, 12) := ⟨⟨by decide +kernel, by decide +kernel⟩, List.mem_of_getElem? (i := 402) (by decide +kernel), List.mem_of_getElem? (i := 1038) (by decide +kernel), List.mem_of_getElem? (i := 1039) (by decide +kernel)⟩
theorem lw_p60 : lw_okq (⟨"EclipseCheese$Held", "drawBelow", "(I)I"⟩, 5) := ⟨⟨by decide +kernel, by decide +kernel⟩, List.mem_of_getElem? (i := 294) (by decide +kernel), List.mem_of_getElem? (i := 1058) (by decide +kernel), List.mem_of_getElem? (i := 1059) (by decide +kernel)⟩
theorem lw_p61 : lw_okq (⟨"EclipseCheese", "refusedAct", "(I)Z"⟩, 18) := ⟨⟨by decide +kernel, by decide +kernel⟩, List.mem_of_getElem? (i := 26) (by decide +kernel), List.mem_of_getElem? (i := 1074) (by decide +kernel), List.mem_of_getElem? (i := 1075) (by decide +kernel)⟩
theorem lw_p62 : lw_okq (⟨"EclipseCheese$Past", "dropOldestAct", "()V"⟩, 4) := ⟨⟨by decide +kernel, by decide +kernel⟩, List.mem_of_getElem? (i := 324) (by decide +kernel), List.mem_of_getElem? (i := 1082) (by decide +kernel), List.mem_of_getElem? (i := 1083) (by decide +kernel)⟩
theorem lw_p63 : lw_okq (⟨"EclipseCheese", "allowed", "()Z"⟩, 18) := ⟨⟨by decide +kernel, by decide +kernel⟩, List.mem_of_getElem? (i := 26) (by decide +kernel), List.mem_of_getElem? (i := 1090) (by decide +kernel), List.mem_of_getElem? (i := 1091) (by decide +kernel)⟩
def lw_privs_4 : List (MethodName × Nat) := [(⟨"EclipseCheese", "isCheese", "(I)Z"⟩, 18), (⟨"EclipseCheese$Night", "isTurned", "(II)Z"⟩, 12), (⟨"EclipseCheese", "veinMinute", "(II)I"⟩, 18), (⟨"EclipseCheese", "eventCount", "()I"⟩, 18), (⟨"EclipseCheese", "eventFrom", "(I)I"⟩, 18), (⟨"EclipseCheese", "eventTo", "(I)I"⟩, 18), (⟨"EclipseCheese", "isEvent", "(I)Z"⟩, 18), (⟨"EclipseCheese", "bestCalls", "()I"⟩, 18), (⟨"EclipseCheese", "allCalls", "()I"⟩, 18), (⟨"EclipseCheese", "fewestTurners", "()I"⟩, 18), (⟨"EclipseCheese", "isSlice", "(I)Z"⟩, 18), (⟨"EclipseCheese$Night", "hasJustVeins", "(ILEclipseCheese$Minutes;)Z"⟩, 12), (⟨"EclipseCheese$Held", "drawBelow", "(I)I"⟩, 5), (⟨"EclipseCheese", "refusedAct", "(I)Z"⟩, 18), (⟨"EclipseCheese$Past", "dropOldestAct", "()V"⟩, 4), (⟨"EclipseCheese", "allowed", "()Z"⟩, 18)]
theorem lw_r4 : ∀ q ∈ lw_privs_4, lw_okq q := List.forall_mem_cons.mpr ⟨lw_p48, List.forall_mem_cons.mpr ⟨lw_p49, List.forall_mem_cons.mpr ⟨lw_p50, List.forall_mem_cons.mpr ⟨lw_p51, List.forall_mem_cons.mpr ⟨lw_p52, List.forall_mem_cons.mpr ⟨lw_p53, List.forall_mem_cons.mpr ⟨lw_p54, List.forall_mem_cons.mpr ⟨lw_p55, List.forall_mem_cons.mpr ⟨lw_p56, List.forall_mem_cons.mpr ⟨lw_p57, List.forall_mem_cons.mpr ⟨lw_p58, List.forall_mem_cons.mpr ⟨lw_p59, List.forall_mem_cons.mpr ⟨lw_p60, List.forall_mem_cons.mpr ⟨lw_p61, List.forall_mem_cons.mpr ⟨lw_p62, List.forall_mem_cons.mpr ⟨lw_p63, fun _ h => absurd h List.not_mem_nil⟩⟩⟩⟩⟩⟩⟩⟩⟩⟩⟩⟩⟩⟩⟩⟩
theorem lw_p64 : lw_okq (⟨"java/lang/Throwable", "fillInStackTrace", "(I)Ljava/lang/Throwable;"⟩, 6) := ⟨⟨by decide +kernel, by decide +kernel⟩, List.mem_of_getElem? (i := 1195) (by decide +kernel), List.mem_of_getElem? (i := 1193) (by decide +kernel), List.mem_of_getElem? (i := 1194) (by decide +kernel)⟩
theorem lw_p65 : lw_okq (⟨"EclipseCheeseModel", "refused", "(I)I"⟩, 36) := ⟨⟨by decide +kernel, by decide +kernel⟩, List.mem_of_getElem? (i := 1224) (by decide +kernel), List.mem_of_getElem? (i := 1351) (by decide +kernel), List.mem_of_getElem? (i := 1352) (by decide +kernel)⟩
theorem lw_p66 : lw_okq (⟨"EclipseCheeseModel", "goesOn", "()V"⟩, 36) := ⟨⟨by decide +kernel, by decide +kernel⟩, List.mem_of_getElem? (i := 1224) (by decide +kernel), List.mem_of_getElem? (i := 1485) (by decide +kernel), List.mem_of_getElem? (i := 1486) (by decide +kernel)⟩
theorem lw_p67 : lw_okq (⟨"EclipseCheeseModel", "byteAt", "(I)I"⟩, 36) := ⟨⟨by decide +kernel, by decide +kernel⟩, List.mem_of_getElem? (i := 1224) (by decide +kernel), List.mem_of_getElem? (i := 1489) (by decide +kernel), List.mem_of_getElem? (i := 1490) (by decide +kernel)⟩
theorem lw_p68 : lw_okq (⟨"EclipseCheeseModel", "readAll", "()V"⟩, 36) := ⟨⟨by decide +kernel, by decide +kernel⟩, List.mem_of_getElem? (i := 1224) (by decide +kernel), List.mem_of_getElem? (i := 1500) (by decide +kernel), List.mem_of_getElem? (i := 1501) (by decide +kernel)⟩
theorem lw_p69 : lw_okq (⟨"EclipseCheeseModel", "readLine", "()V"⟩, 36) := ⟨⟨by decide +kernel, by decide +kernel⟩, List.mem_of_getElem? (i := 1224) (by decide +kernel), List.mem_of_getElem? (i := 1504) (by decide +kernel), List.mem_of_getElem? (i := 1505) (by decide +kernel)⟩
theorem lw_p70 : lw_okq (⟨"EclipseCheeseModel", "isWord", "(Ljava/lang/String;)Z"⟩, 36) := ⟨⟨by decide +kernel, by decide +kernel⟩, List.mem_of_getElem? (i := 1224) (by decide +kernel), List.mem_of_getElem? (i := 1509) (by decide +kernel), List.mem_of_getElem? (i := 1510) (by decide +kernel)⟩
theorem lw_p71 : lw_okq (⟨"EclipseCheeseModel", "readAlp", "()V"⟩, 36) := ⟨⟨by decide +kernel, by decide +kernel⟩, List.mem_of_getElem? (i := 1224) (by decide +kernel), List.mem_of_getElem? (i := 1518) (by decide +kernel), List.mem_of_getElem? (i := 1519) (by decide +kernel)⟩
theorem lw_p72 : lw_okq (⟨"EclipseCheeseModel", "flaw", "(I)V"⟩, 36) := ⟨⟨by decide +kernel, by decide +kernel⟩, List.mem_of_getElem? (i := 1224) (by decide +kernel), List.mem_of_getElem? (i := 1522) (by decide +kernel), List.mem_of_getElem? (i := 1523) (by decide +kernel)⟩
theorem lw_p73 : lw_okq (⟨"EclipseCheeseModel", "readPart", "(Ljava/lang/String;II)I"⟩, 36) := ⟨⟨by decide +kernel, by decide +kernel⟩, List.mem_of_getElem? (i := 1224) (by decide +kernel), List.mem_of_getElem? (i := 1527) (by decide +kernel), List.mem_of_getElem? (i := 1528) (by decide +kernel)⟩
theorem lw_p74 : lw_okq (⟨"EclipseCheeseModel", "needs", "(Ljava/lang/String;)V"⟩, 36) := ⟨⟨by decide +kernel, by decide +kernel⟩, List.mem_of_getElem? (i := 1224) (by decide +kernel), List.mem_of_getElem? (i := 1531) (by decide +kernel), List.mem_of_getElem? (i := 1532) (by decide +kernel)⟩
theorem lw_p75 : lw_okq (⟨"EclipseCheeseModel", "readWhole", "(II)I"⟩, 36) := ⟨⟨by decide +kernel, by decide +kernel⟩, List.mem_of_getElem? (i := 1224) (by decide +kernel), List.mem_of_getElem? (i := 1535) (by decide +kernel), List.mem_of_getElem? (i := 1536) (by decide +kernel)⟩
theorem lw_p76 : lw_okq (⟨"EclipseCheeseModel", "bounded", "(II)I"⟩, 36) := ⟨⟨by decide +kernel, by decide +kernel⟩, List.mem_of_getElem? (i := 1224) (by decide +kernel), List.mem_of_getElem? (i := 1539) (by decide +kernel), List.mem_of_getElem? (i := 1540) (by decide +kernel)⟩
theorem lw_p77 : lw_okq (⟨"EclipseCheeseModel", "needsSign", "(I)V"⟩, 36) := ⟨⟨by decide +kernel, by decide +kernel⟩, List.mem_of_getElem? (i := 1224) (by decide +kernel), List.mem_of_getElem? (i := 1548) (by decide +kernel), List.mem_of_getElem? (i := 1549) (by decide +kernel)⟩
theorem lw_p78 : lw_okq (⟨"EclipseCheeseModel", "readEvent", "(I)V"⟩, 36) := ⟨⟨by decide +kernel, by decide +kernel⟩, List.mem_of_getElem? (i := 1224) (by decide +kernel), List.mem_of_getElem? (i := 1553) (by decide +kernel), List.mem_of_getElem? (i := 1554) (by decide +kernel)⟩
theorem lw_p79 : lw_okq (⟨"EclipseCheeseModel", "begins", "(II)V"⟩, 36) := ⟨⟨by decide +kernel, by decide +kernel⟩, List.mem_of_getElem? (i := 1224) (by decide +kernel), List.mem_of_getElem? (i := 1557) (by decide +kernel), List.mem_of_getElem? (i := 1558) (by decide +kernel)⟩
def lw_privs_5 : List (MethodName × Nat) := [(⟨"java/lang/Throwable", "fillInStackTrace", "(I)Ljava/lang/Throwable;"⟩, 6), (⟨"EclipseCheeseModel", "refused", "(I)I"⟩, 36), (⟨"EclipseCheeseModel", "goesOn", "()V"⟩, 36), (⟨"EclipseCheeseModel", "byteAt", "(I)I"⟩, 36), (⟨"EclipseCheeseModel", "readAll", "()V"⟩, 36), (⟨"EclipseCheeseModel", "readLine", "()V"⟩, 36), (⟨"EclipseCheeseModel", "isWord", "(Ljava/lang/String;)Z"⟩, 36), (⟨"EclipseCheeseModel", "readAlp", "()V"⟩, 36), (⟨"EclipseCheeseModel", "flaw", "(I)V"⟩, 36), (⟨"EclipseCheeseModel", "readPart", "(Ljava/lang/String;II)I"⟩, 36), (⟨"EclipseCheeseModel", "needs", "(Ljava/lang/String;)V"⟩, 36), (⟨"EclipseCheeseModel", "readWhole", "(II)I"⟩, 36), (⟨"EclipseCheeseModel", "bounded", "(II)I"⟩, 36), (⟨"EclipseCheeseModel", "needsSign", "(I)V"⟩, 36), (⟨"EclipseCheeseModel", "readEvent", "(I)V"⟩, 36), (⟨"EclipseCheeseModel", "begins", "(II)V"⟩, 36)]
theorem lw_r5 : ∀ q ∈ lw_privs_5, lw_okq q := List.forall_mem_cons.mpr ⟨lw_p64, List.forall_mem_cons.mpr ⟨lw_p65, List.forall_mem_cons.mpr ⟨lw_p66, List.forall_mem_cons.mpr ⟨lw_p67, List.forall_mem_cons.mpr ⟨lw_p68, List.forall_mem_cons.mpr ⟨lw_p69, List.forall_mem_cons.mpr ⟨lw_p70, List.forall_mem_cons.mpr ⟨lw_p71, List.forall_mem_cons.mpr ⟨lw_p72, List.forall_mem_cons.mpr ⟨lw_p73, List.forall_mem_cons.mpr ⟨lw_p74, List.forall_mem_cons.mpr ⟨lw_p75, List.forall_mem_cons.mpr ⟨lw_p76, List.forall_mem_cons.mpr ⟨lw_p77, List.forall_mem_cons.mpr ⟨lw_p78, List.forall_mem_cons.mpr ⟨lw_p79, fun _ h => absurd h List.not_mem_nil⟩⟩⟩⟩⟩⟩⟩⟩⟩⟩⟩⟩⟩⟩⟩⟩
theorem lw_p80 : lw_okq (⟨"EclipseCheeseModel", "readCheese", "()V"⟩, 36) := ⟨⟨by decide +kernel, by decide +kernel⟩, List.mem_of_getElem? (i := 1224) (by decide +kernel), List.mem_of_getElem? (i := 1567) (by decide +kernel), List.mem_of_getElem? (i := 1568) (by decide +kernel)⟩
theorem lw_p81 : lw_okq (⟨"EclipseCheeseModel", "readFresh", "()J"⟩, 36) := ⟨⟨by decide +kernel, by decide +kernel⟩, List.mem_of_getElem? (i := 1224) (by decide +kernel), List.mem_of_getElem? (i := 1571) (by decide +kernel), List.mem_of_getElem? (i := 1572) (by decide +kernel)⟩
theorem lw_p82 : lw_okq (⟨"EclipseCheeseModel", "isName", "()Z"⟩, 36) := ⟨⟨by decide +kernel, by decide +kernel⟩, List.mem_of_getElem? (i := 1224) (by decide +kernel), List.mem_of_getElem? (i := 1575) (by decide +kernel), List.mem_of_getElem? (i := 1576) (by decide +kernel)⟩
theorem lw_p83 : lw_okq (⟨"EclipseCheeseModel", "eatsWord", "(Ljava/lang/String;)Z"⟩, 36) := ⟨⟨by decide +kernel, by decide +kernel⟩, List.mem_of_getElem? (i := 1224) (by decide +kernel), List.mem_of_getElem? (i := 1589) (by decide +kernel), List.mem_of_getElem? (i := 1590) (by decide +kernel)⟩
theorem lw_p84 : lw_okq (⟨"EclipseCheeseModel", "names", "(JII)V"⟩, 36) := ⟨⟨by decide +kernel, by decide +kernel⟩, List.mem_of_getElem? (i := 1224) (by decide +kernel), List.mem_of_getElem? (i := 1593) (by decide +kernel), List.mem_of_getElem? (i := 1594) (by decide +kernel)⟩
theorem lw_p85 : lw_okq (⟨"EclipseCheeseModel", "readAlmanac", "()V"⟩, 36) := ⟨⟨by decide +kernel, by decide +kernel⟩, List.mem_of_getElem? (i := 1224) (by decide +kernel), List.mem_of_getElem? (i := 1597) (by decide +kernel), List.mem_of_getElem? (i := 1598) (by decide +kernel)⟩
theorem lw_p86 : lw_okq (⟨"EclipseCheeseModel", "readRising", "([III)I"⟩, 36) := ⟨⟨by decide +kernel, by decide +kernel⟩, List.mem_of_getElem? (i := 1224) (by decide +kernel), List.mem_of_getElem? (i := 1601) (by decide +kernel), List.mem_of_getElem? (i := 1602) (by decide +kernel)⟩
theorem lw_p87 : lw_okq (⟨"EclipseCheeseModel", "eatsSign", "(I)Z"⟩, 36) := ⟨⟨by decide +kernel, by decide +kernel⟩, List.mem_of_getElem? (i := 1224) (by decide +kernel), List.mem_of_getElem? (i := 1605) (by decide +kernel), List.mem_of_getElem? (i := 1606) (by decide +kernel)⟩
theorem lw_p88 : lw_okq (⟨"EclipseCheeseModel", "readTurner", "()V"⟩, 36) := ⟨⟨by decide +kernel, by decide +kernel⟩, List.mem_of_getElem? (i := 1224) (by decide +kernel), List.mem_of_getElem? (i := 1609) (by decide +kernel), List.mem_of_getElem? (i := 1610) (by decide +kernel)⟩
theorem lw_p89 : lw_okq (⟨"EclipseCheeseModel", "readCall", "()V"⟩, 36) := ⟨⟨by decide +kernel, by decide +kernel⟩, List.mem_of_getElem? (i := 1224) (by decide +kernel), List.mem_of_getElem? (i := 1622) (by decide +kernel), List.mem_of_getElem? (i := 1623) (by decide +kernel)⟩
theorem lw_p90 : lw_okq (⟨"EclipseCheeseModel", "readSlice", "()V"⟩, 36) := ⟨⟨by decide +kernel, by decide +kernel⟩, List.mem_of_getElem? (i := 1224) (by decide +kernel), List.mem_of_getElem? (i := 1629) (by decide +kernel), List.mem_of_getElem? (i := 1630) (by decide +kernel)⟩
theorem lw_p91 : lw_okq (⟨"EclipseCheeseModel", "good", "(I)I"⟩, 36) := ⟨⟨by decide +kernel, by decide +kernel⟩, List.mem_of_getElem? (i := 1224) (by decide +kernel), List.mem_of_getElem? (i := 1633) (by decide +kernel), List.mem_of_getElem? (i := 1634) (by decide +kernel)⟩
theorem lw_p92 : lw_okq (⟨"EclipseCheeseModel", "isMinute", "(I)Z"⟩, 36) := ⟨⟨by decide +kernel, by decide +kernel⟩, List.mem_of_getElem? (i := 1224) (by decide +kernel), List.mem_of_getElem? (i := 1649) (by decide +kernel), List.mem_of_getElem? (i := 1650) (by decide +kernel)⟩
theorem lw_p93 : lw_okq (⟨"EclipseCheeseModel", "laysLight", "(I)V"⟩, 36) := ⟨⟨by decide +kernel, by decide +kernel⟩, List.mem_of_getElem? (i := 1224) (by decide +kernel), List.mem_of_getElem? (i := 1653) (by decide +kernel), List.mem_of_getElem? (i := 1654) (by decide +kernel)⟩
theorem lw_p94 : lw_okq (⟨"EclipseCheeseModel", "events", "()I"⟩, 36) := ⟨⟨by decide +kernel, by decide +kernel⟩, List.mem_of_getElem? (i := 1224) (by decide +kernel), List.mem_of_getElem? (i := 1657) (by decide +kernel), List.mem_of_getElem? (i := 1658) (by decide +kernel)⟩
theorem lw_p95 : lw_okq (⟨"EclipseCheeseModel", "fromOf", "(I)I"⟩, 36) := ⟨⟨by decide +kernel, by decide +kernel⟩, List.mem_of_getElem? (i := 1224) (by decide +kernel), List.mem_of_getElem? (i := 1661) (by decide +kernel), List.mem_of_getElem? (i := 1662) (by decide +kernel)⟩
def lw_privs_6 : List (MethodName × Nat) := [(⟨"EclipseCheeseModel", "readCheese", "()V"⟩, 36), (⟨"EclipseCheeseModel", "readFresh", "()J"⟩, 36), (⟨"EclipseCheeseModel", "isName", "()Z"⟩, 36), (⟨"EclipseCheeseModel", "eatsWord", "(Ljava/lang/String;)Z"⟩, 36), (⟨"EclipseCheeseModel", "names", "(JII)V"⟩, 36), (⟨"EclipseCheeseModel", "readAlmanac", "()V"⟩, 36), (⟨"EclipseCheeseModel", "readRising", "([III)I"⟩, 36), (⟨"EclipseCheeseModel", "eatsSign", "(I)Z"⟩, 36), (⟨"EclipseCheeseModel", "readTurner", "()V"⟩, 36), (⟨"EclipseCheeseModel", "readCall", "()V"⟩, 36), (⟨"EclipseCheeseModel", "readSlice", "()V"⟩, 36), (⟨"EclipseCheeseModel", "good", "(I)I"⟩, 36), (⟨"EclipseCheeseModel", "isMinute", "(I)Z"⟩, 36), (⟨"EclipseCheeseModel", "laysLight", "(I)V"⟩, 36), (⟨"EclipseCheeseModel", "events", "()I"⟩, 36), (⟨"EclipseCheeseModel", "fromOf", "(I)I"⟩, 36)]
theorem lw_r6 : ∀ q ∈ lw_privs_6, lw_okq q := List.forall_mem_cons.mpr ⟨lw_p80, List.forall_mem_cons.mpr ⟨lw_p81, List.forall_mem_cons.mpr ⟨lw_p82, List.forall_mem_cons.mpr ⟨lw_p83, List.forall_mem_cons.mpr ⟨lw_p84, List.forall_mem_cons.mpr ⟨lw_p85, List.forall_mem_cons.mpr ⟨lw_p86, List.forall_mem_cons.mpr ⟨lw_p87, List.forall_mem_cons.mpr ⟨lw_p88, List.forall_mem_cons.mpr ⟨lw_p89, List.forall_mem_cons.mpr ⟨lw_p90, List.forall_mem_cons.mpr ⟨lw_p91, List.forall_mem_cons.mpr ⟨lw_p92, List.forall_mem_cons.mpr ⟨lw_p93, List.forall_mem_cons.mpr ⟨lw_p94, List.forall_mem_cons.mpr ⟨lw_p95, fun _ h => absurd h List.not_mem_nil⟩⟩⟩⟩⟩⟩⟩⟩⟩⟩⟩⟩⟩⟩⟩⟩
theorem lw_p96 : lw_okq (⟨"EclipseCheeseModel", "toOf", "(I)I"⟩, 36) := ⟨⟨by decide +kernel, by decide +kernel⟩, List.mem_of_getElem? (i := 1224) (by decide +kernel), List.mem_of_getElem? (i := 1665) (by decide +kernel), List.mem_of_getElem? (i := 1666) (by decide +kernel)⟩
theorem lw_p97 : lw_okq (⟨"EclipseCheeseModel", "marksLight", "(II)V"⟩, 36) := ⟨⟨by decide +kernel, by decide +kernel⟩, List.mem_of_getElem? (i := 1224) (by decide +kernel), List.mem_of_getElem? (i := 1669) (by decide +kernel), List.mem_of_getElem? (i := 1670) (by decide +kernel)⟩
theorem lw_p98 : lw_okq (⟨"EclipseCheeseModel", "kindOf", "(I)I"⟩, 36) := ⟨⟨by decide +kernel, by decide +kernel⟩, List.mem_of_getElem? (i := 1224) (by decide +kernel), List.mem_of_getElem? (i := 1673) (by decide +kernel), List.mem_of_getElem? (i := 1674) (by decide +kernel)⟩
theorem lw_p99 : lw_okq (⟨"EclipseCheeseModel", "hutOf", "(I)I"⟩, 36) := ⟨⟨by decide +kernel, by decide +kernel⟩, List.mem_of_getElem? (i := 1224) (by decide +kernel), List.mem_of_getElem? (i := 1677) (by decide +kernel), List.mem_of_getElem? (i := 1678) (by decide +kernel)⟩
theorem lw_p100 : lw_okq (⟨"EclipseCheeseModel", "isHut", "(I)Z"⟩, 36) := ⟨⟨by decide +kernel, by decide +kernel⟩, List.mem_of_getElem? (i := 1224) (by decide +kernel), List.mem_of_getElem? (i := 1685) (by decide +kernel), List.mem_of_getElem? (i := 1686) (by decide +kernel)⟩
theorem lw_p101 : lw_okq (⟨"EclipseCheeseModel", "seemsToIn", "(II)Z"⟩, 36) := ⟨⟨by decide +kernel, by decide +kernel⟩, List.mem_of_getElem? (i := 1224) (by decide +kernel), List.mem_of_getElem? (i := 1693) (by decide +kernel), List.mem_of_getElem? (i := 1694) (by decide +kernel)⟩
theorem lw_p102 : lw_okq (⟨"EclipseCheeseModel", "changesIn", "(II)Z"⟩, 36) := ⟨⟨by decide +kernel, by decide +kernel⟩, List.mem_of_getElem? (i := 1224) (by decide +kernel), List.mem_of_getElem? (i := 1697) (by decide +kernel), List.mem_of_getElem? (i := 1698) (by decide +kernel)⟩
theorem lw_p103 : lw_okq (⟨"EclipseCheeseModel", "dueIn", "(I)I"⟩, 36) := ⟨⟨by decide +kernel, by decide +kernel⟩, List.mem_of_getElem? (i := 1224) (by decide +kernel), List.mem_of_getElem? (i := 1709) (by decide +kernel), List.mem_of_getElem? (i := 1710) (by decide +kernel)⟩
theorem lw_p104 : lw_okq (⟨"EclipseCheeseModel", "isTurner", "(I)Z"⟩, 36) := ⟨⟨by decide +kernel, by decide +kernel⟩, List.mem_of_getElem? (i := 1224) (by decide +kernel), List.mem_of_getElem? (i := 1721) (by decide +kernel), List.mem_of_getElem? (i := 1722) (by decide +kernel)⟩
theorem lw_p105 : lw_okq (⟨"EclipseCheeseModel", "isAwake", "(III)Z"⟩, 36) := ⟨⟨by decide +kernel, by decide +kernel⟩, List.mem_of_getElem? (i := 1224) (by decide +kernel), List.mem_of_getElem? (i := 1725) (by decide +kernel), List.mem_of_getElem? (i := 1726) (by decide +kernel)⟩
theorem lw_p106 : lw_okq (⟨"EclipseCheeseModel", "noticesIn", "(III)Z"⟩, 36) := ⟨⟨by decide +kernel, by decide +kernel⟩, List.mem_of_getElem? (i := 1224) (by decide +kernel), List.mem_of_getElem? (i := 1733) (by decide +kernel), List.mem_of_getElem? (i := 1734) (by decide +kernel)⟩
theorem lw_p107 : lw_okq (⟨"EclipseCheeseModel", "isInAlmanac", "(I)Z"⟩, 36) := ⟨⟨by decide +kernel, by decide +kernel⟩, List.mem_of_getElem? (i := 1224) (by decide +kernel), List.mem_of_getElem? (i := 1737) (by decide +kernel), List.mem_of_getElem? (i := 1738) (by decide +kernel)⟩
theorem lw_p108 : lw_okq (⟨"EclipseCheeseModel", "tonight", "()I"⟩, 36) := ⟨⟨by decide +kernel, by decide +kernel⟩, List.mem_of_getElem? (i := 1224) (by decide +kernel), List.mem_of_getElem? (i := 1745) (by decide +kernel), List.mem_of_getElem? (i := 1746) (by decide +kernel)⟩
theorem lw_p109 : lw_okq (⟨"EclipseCheeseModel", "everybody", "()I"⟩, 36) := ⟨⟨by decide +kernel, by decide +kernel⟩, List.mem_of_getElem? (i := 1224) (by decide +kernel), List.mem_of_getElem? (i := 1749) (by decide +kernel), List.mem_of_getElem? (i := 1750) (by decide +kernel)⟩
theorem lw_p110 : lw_okq (⟨"EclipseCheeseModel", "goes", "(II)I"⟩, 36) := ⟨⟨by decide +kernel, by decide +kernel⟩, List.mem_of_getElem? (i := 1224) (by decide +kernel), List.mem_of_getElem? (i := 1753) (by decide +kernel), List.mem_of_getElem? (i := 1754) (by decide +kernel)⟩
theorem lw_p111 : lw_okq (⟨"EclipseCheeseModel", "turns", "(II)V"⟩, 36) := ⟨⟨by decide +kernel, by decide +kernel⟩, List.mem_of_getElem? (i := 1224) (by decide +kernel), List.mem_of_getElem? (i := 1757) (by decide +kernel), List.mem_of_getElem? (i := 1758) (by decide +kernel)⟩
def lw_privs_7 : List (MethodName × Nat) := [(⟨"EclipseCheeseModel", "toOf", "(I)I"⟩, 36), (⟨"EclipseCheeseModel", "marksLight", "(II)V"⟩, 36), (⟨"EclipseCheeseModel", "kindOf", "(I)I"⟩, 36), (⟨"EclipseCheeseModel", "hutOf", "(I)I"⟩, 36), (⟨"EclipseCheeseModel", "isHut", "(I)Z"⟩, 36), (⟨"EclipseCheeseModel", "seemsToIn", "(II)Z"⟩, 36), (⟨"EclipseCheeseModel", "changesIn", "(II)Z"⟩, 36), (⟨"EclipseCheeseModel", "dueIn", "(I)I"⟩, 36), (⟨"EclipseCheeseModel", "isTurner", "(I)Z"⟩, 36), (⟨"EclipseCheeseModel", "isAwake", "(III)Z"⟩, 36), (⟨"EclipseCheeseModel", "noticesIn", "(III)Z"⟩, 36), (⟨"EclipseCheeseModel", "isInAlmanac", "(I)Z"⟩, 36), (⟨"EclipseCheeseModel", "tonight", "()I"⟩, 36), (⟨"EclipseCheeseModel", "everybody", "()I"⟩, 36), (⟨"EclipseCheeseModel", "goes", "(II)I"⟩, 36), (⟨"EclipseCheeseModel", "turns", "(II)V"⟩, 36)]
theorem lw_r7 : ∀ q ∈ lw_privs_7, lw_okq q := List.forall_mem_cons.mpr ⟨lw_p96, List.forall_mem_cons.mpr ⟨lw_p97, List.forall_mem_cons.mpr ⟨lw_p98, List.forall_mem_cons.mpr ⟨lw_p99, List.forall_mem_cons.mpr ⟨lw_p100, List.forall_mem_cons.mpr ⟨lw_p101, List.forall_mem_cons.mpr ⟨lw_p102, List.forall_mem_cons.mpr ⟨lw_p103, List.forall_mem_cons.mpr ⟨lw_p104, List.forall_mem_cons.mpr ⟨lw_p105, List.forall_mem_cons.mpr ⟨lw_p106, List.forall_mem_cons.mpr ⟨lw_p107, List.forall_mem_cons.mpr ⟨lw_p108, List.forall_mem_cons.mpr ⟨lw_p109, List.forall_mem_cons.mpr ⟨lw_p110, List.forall_mem_cons.mpr ⟨lw_p111, fun _ h => absurd h List.not_mem_nil⟩⟩⟩⟩⟩⟩⟩⟩⟩⟩⟩⟩⟩⟩⟩⟩
theorem lw_p112 : lw_okq (⟨"EclipseCheeseModel", "notes", "(II)V"⟩, 36) := ⟨⟨by decide +kernel, by decide +kernel⟩, List.mem_of_getElem? (i := 1224) (by decide +kernel), List.mem_of_getElem? (i := 1761) (by decide +kernel), List.mem_of_getElem? (i := 1762) (by decide +kernel)⟩
theorem lw_p113 : lw_okq (⟨"EclipseCheeseModel", "priceOf", "(I)I"⟩, 36) := ⟨⟨by decide +kernel, by decide +kernel⟩, List.mem_of_getElem? (i := 1224) (by decide +kernel), List.mem_of_getElem? (i := 1765) (by decide +kernel), List.mem_of_getElem? (i := 1766) (by decide +kernel)⟩
theorem lw_p114 : lw_okq (⟨"EclipseCheeseModel", "lost", "(I)I"⟩, 36) := ⟨⟨by decide +kernel, by decide +kernel⟩, List.mem_of_getElem? (i := 1224) (by decide +kernel), List.mem_of_getElem? (i := 1773) (by decide +kernel), List.mem_of_getElem? (i := 1774) (by decide +kernel)⟩
theorem lw_p115 : lw_okq (⟨"EclipseCheeseModel", "isCheese", "(I)Z"⟩, 36) := ⟨⟨by decide +kernel, by decide +kernel⟩, List.mem_of_getElem? (i := 1224) (by decide +kernel), List.mem_of_getElem? (i := 1782) (by decide +kernel), List.mem_of_getElem? (i := 1783) (by decide +kernel)⟩
theorem lw_p116 : lw_okq (⟨"EclipseCheeseModel", "veinAt", "(II)I"⟩, 36) := ⟨⟨by decide +kernel, by decide +kernel⟩, List.mem_of_getElem? (i := 1224) (by decide +kernel), List.mem_of_getElem? (i := 1798) (by decide +kernel), List.mem_of_getElem? (i := 1799) (by decide +kernel)⟩
theorem lw_p117 : lw_okq (⟨"EclipseCheeseModel", "isEvent", "(I)Z"⟩, 36) := ⟨⟨by decide +kernel, by decide +kernel⟩, List.mem_of_getElem? (i := 1224) (by decide +kernel), List.mem_of_getElem? (i := 1814) (by decide +kernel), List.mem_of_getElem? (i := 1815) (by decide +kernel)⟩
theorem lw_p118 : lw_okq (⟨"EclipseCheeseModel", "wakeNow", "()I"⟩, 36) := ⟨⟨by decide +kernel, by decide +kernel⟩, List.mem_of_getElem? (i := 1224) (by decide +kernel), List.mem_of_getElem? (i := 1822) (by decide +kernel), List.mem_of_getElem? (i := 1823) (by decide +kernel)⟩
theorem lw_p119 : lw_okq (⟨"EclipseCheeseModel", "fewestNow", "()I"⟩, 36) := ⟨⟨by decide +kernel, by decide +kernel⟩, List.mem_of_getElem? (i := 1224) (by decide +kernel), List.mem_of_getElem? (i := 1837) (by decide +kernel), List.mem_of_getElem? (i := 1838) (by decide +kernel)⟩
theorem lw_p120 : lw_okq (⟨"EclipseCheeseModel", "missesNone", "(I)Z"⟩, 36) := ⟨⟨by decide +kernel, by decide +kernel⟩, List.mem_of_getElem? (i := 1224) (by decide +kernel), List.mem_of_getElem? (i := 1841) (by decide +kernel), List.mem_of_getElem? (i := 1842) (by decide +kernel)⟩
theorem lw_p121 : lw_okq (⟨"EclipseCheeseModel", "isSlice", "(I)Z"⟩, 36) := ⟨⟨by decide +kernel, by decide +kernel⟩, List.mem_of_getElem? (i := 1224) (by decide +kernel), List.mem_of_getElem? (i := 1853) (by decide +kernel), List.mem_of_getElem? (i := 1854) (by decide +kernel)⟩
theorem lw_p122 : lw_okq (⟨"EclipseCheeseModel", "fitsNow", "(I)I"⟩, 36) := ⟨⟨by decide +kernel, by decide +kernel⟩, List.mem_of_getElem? (i := 1224) (by decide +kernel), List.mem_of_getElem? (i := 1857) (by decide +kernel), List.mem_of_getElem? (i := 1858) (by decide +kernel)⟩
theorem lw_p123 : lw_okq (⟨"EclipseCheeseModel", "draws", "()I"⟩, 36) := ⟨⟨by decide +kernel, by decide +kernel⟩, List.mem_of_getElem? (i := 1224) (by decide +kernel), List.mem_of_getElem? (i := 1870) (by decide +kernel), List.mem_of_getElem? (i := 1871) (by decide +kernel)⟩
theorem lw_p124 : lw_okq (⟨"EclipseCheeseModel", "drawOf", "(I)I"⟩, 36) := ⟨⟨by decide +kernel, by decide +kernel⟩, List.mem_of_getElem? (i := 1224) (by decide +kernel), List.mem_of_getElem? (i := 1874) (by decide +kernel), List.mem_of_getElem? (i := 1875) (by decide +kernel)⟩
theorem lw_p125 : lw_okq (⟨"EclipseCheeseModel", "comes", "(II)V"⟩, 36) := ⟨⟨by decide +kernel, by decide +kernel⟩, List.mem_of_getElem? (i := 1224) (by decide +kernel), List.mem_of_getElem? (i := 1881) (by decide +kernel), List.mem_of_getElem? (i := 1882) (by decide +kernel)⟩
theorem lw_p126 : lw_okq (⟨"EclipseCheeseModel", "denied", "(I)Z"⟩, 36) := ⟨⟨by decide +kernel, by decide +kernel⟩, List.mem_of_getElem? (i := 1224) (by decide +kernel), List.mem_of_getElem? (i := 1889) (by decide +kernel), List.mem_of_getElem? (i := 1890) (by decide +kernel)⟩
theorem lw_p127 : lw_okq (⟨"EclipseCheeseModel", "keeps", "()V"⟩, 36) := ⟨⟨by decide +kernel, by decide +kernel⟩, List.mem_of_getElem? (i := 1224) (by decide +kernel), List.mem_of_getElem? (i := 1893) (by decide +kernel), List.mem_of_getElem? (i := 1894) (by decide +kernel)⟩
def lw_privs_8 : List (MethodName × Nat) := [(⟨"EclipseCheeseModel", "notes", "(II)V"⟩, 36), (⟨"EclipseCheeseModel", "priceOf", "(I)I"⟩, 36), (⟨"EclipseCheeseModel", "lost", "(I)I"⟩, 36), (⟨"EclipseCheeseModel", "isCheese", "(I)Z"⟩, 36), (⟨"EclipseCheeseModel", "veinAt", "(II)I"⟩, 36), (⟨"EclipseCheeseModel", "isEvent", "(I)Z"⟩, 36), (⟨"EclipseCheeseModel", "wakeNow", "()I"⟩, 36), (⟨"EclipseCheeseModel", "fewestNow", "()I"⟩, 36), (⟨"EclipseCheeseModel", "missesNone", "(I)Z"⟩, 36), (⟨"EclipseCheeseModel", "isSlice", "(I)Z"⟩, 36), (⟨"EclipseCheeseModel", "fitsNow", "(I)I"⟩, 36), (⟨"EclipseCheeseModel", "draws", "()I"⟩, 36), (⟨"EclipseCheeseModel", "drawOf", "(I)I"⟩, 36), (⟨"EclipseCheeseModel", "comes", "(II)V"⟩, 36), (⟨"EclipseCheeseModel", "denied", "(I)Z"⟩, 36), (⟨"EclipseCheeseModel", "keeps", "()V"⟩, 36)]
theorem lw_r8 : ∀ q ∈ lw_privs_8, lw_okq q := List.forall_mem_cons.mpr ⟨lw_p112, List.forall_mem_cons.mpr ⟨lw_p113, List.forall_mem_cons.mpr ⟨lw_p114, List.forall_mem_cons.mpr ⟨lw_p115, List.forall_mem_cons.mpr ⟨lw_p116, List.forall_mem_cons.mpr ⟨lw_p117, List.forall_mem_cons.mpr ⟨lw_p118, List.forall_mem_cons.mpr ⟨lw_p119, List.forall_mem_cons.mpr ⟨lw_p120, List.forall_mem_cons.mpr ⟨lw_p121, List.forall_mem_cons.mpr ⟨lw_p122, List.forall_mem_cons.mpr ⟨lw_p123, List.forall_mem_cons.mpr ⟨lw_p124, List.forall_mem_cons.mpr ⟨lw_p125, List.forall_mem_cons.mpr ⟨lw_p126, List.forall_mem_cons.mpr ⟨lw_p127, fun _ h => absurd h List.not_mem_nil⟩⟩⟩⟩⟩⟩⟩⟩⟩⟩⟩⟩⟩⟩⟩⟩
theorem lw_p128 : lw_okq (⟨"EclipseCheeseModel", "granted", "()Z"⟩, 36) := ⟨⟨by decide +kernel, by decide +kernel⟩, List.mem_of_getElem? (i := 1224) (by decide +kernel), List.mem_of_getElem? (i := 1897) (by decide +kernel), List.mem_of_getElem? (i := 1898) (by decide +kernel)⟩
def lw_privs_9 : List (MethodName × Nat) := [(⟨"EclipseCheeseModel", "granted", "()Z"⟩, 36)]
theorem lw_r9 : ∀ q ∈ lw_privs_9, lw_okq q := List.forall_mem_cons.mpr ⟨lw_p128, fun _ h => absurd h List.not_mem_nil⟩
def lw_privs : List (MethodName × Nat) := lw_privs_1 ++ (lw_privs_2 ++ (lw_privs_3 ++ (lw_privs_4 ++ (lw_privs_5 ++ (lw_privs_6 ++ (lw_privs_7 ++ (lw_privs_8 ++ (lw_privs_9))))))))
def lw_tbl : List Cond := k2_sels lw_privs ++ tables_1
theorem lw_privs_ok : ∀ q ∈ lw_privs, lw_okq q := by
  show ∀ q ∈ lw_privs_1 ++ (lw_privs_2 ++ (lw_privs_3 ++ (lw_privs_4 ++ (lw_privs_5 ++ (lw_privs_6 ++ (lw_privs_7 ++ (lw_privs_8 ++ (lw_privs_9)))))))), lw_okq q
  exact List.forall_mem_append.mpr ⟨lw_r1, List.forall_mem_append.mpr ⟨lw_r2, List.forall_mem_append.mpr ⟨lw_r3, List.forall_mem_append.mpr ⟨lw_r4, List.forall_mem_append.mpr ⟨lw_r5, List.forall_mem_append.mpr ⟨lw_r6, List.forall_mem_append.mpr ⟨lw_r7, List.forall_mem_append.mpr ⟨lw_r8, lw_r9⟩⟩⟩⟩⟩⟩⟩⟩
end
section
def RX0 : String := "EclipseCheese$Alp"
def TX0 : u_T := fun k => match k with
  | 0 => ("EclipseCheese$Alp", "minutes", "I", false)
  | 1 => ("EclipseCheese$Alp", "huts", "I", false)
  | 2 => ("EclipseCheese$Alp", "prices", "[I", true)
  | 3 => ("EclipseCheese$Alp", "eventCount", "I", false)
  | 4 => ("EclipseCheese$Alp", "events", "[LEclipseCheese$Event;", true)
  | 5 => ("EclipseCheese$Alp", "cheeseCount", "I", false)
  | 6 => ("EclipseCheese$Alp", "cheeseHut", "[I", true)
  | 7 => ("EclipseCheese$Alp", "cheesesUp", "I", false)
  | 8 => ("EclipseCheese$Alp", "almanac", "LEclipseCheese$Minutes;", true)
  | 9 => ("EclipseCheese$Alp", "turnerCount", "I", false)
  | 10 => ("EclipseCheese$Alp", "turners", "[LEclipseCheese$Turner;", true)
  | 11 => ("EclipseCheese$Alp", "callCount", "I", false)
  | 12 => ("EclipseCheese$Alp", "calls", "[LEclipseCheese$Call;", true)
  | 13 => ("EclipseCheese$Alp", "sliceCount", "I", false)
  | _ => ("EclipseCheese$Alp", "slices", "[LEclipseCheese$Minutes;", true)
def tyX0 : Nat → FieldType := fun k => match k with
  | 0 => .int
  | 1 => .int
  | 2 => .array .int
  | 3 => .int
  | 4 => .array (.object "EclipseCheese$Event")
  | 5 => .int
  | 6 => .array .int
  | 7 => .int
  | 8 => .object "EclipseCheese$Minutes"
  | 9 => .int
  | 10 => .array (.object "EclipseCheese$Turner")
  | 11 => .int
  | 12 => .array (.object "EclipseCheese$Call")
  | 13 => .int
  | _ => .array (.object "EclipseCheese$Minutes")
abbrev wsX00 : List Cond := u_ws RX0 TX0 15
theorem nmX0 : ∀ a, a < 15 → ∀ b, b < 15 → a ≠ b → (TX0 a).2.1 ≠ (TX0 b).2.1 := by decide +kernel
theorem tyX0_ok : ∀ k, k < 15 → parseFieldDescriptor (TX0 k).2.2.1 = some (tyX0 k) := by decide +kernel
abbrev cX0_init : ByteArray := prog_2_method_1_code
def yX0_init : MethodName := ⟨RX0, "<init>", "()V"⟩
abbrev cX0_clear : ByteArray := prog_2_method_2_code
def yX0_clear : MethodName := ⟨RX0, "clear", "()V"⟩
abbrev cX0_cheesesIn : ByteArray := prog_2_method_3_code
def yX0_cheesesIn : MethodName := ⟨RX0, "cheesesIn", "(I)I"⟩
abbrev cX0_costOf : ByteArray := prog_2_method_4_code
def yX0_costOf : MethodName := ⟨RX0, "costOf", "(I)I"⟩
def RX1 : String := "EclipseCheese$Call"
def TX1 : u_T := fun k => match k with
  | 0 => ("EclipseCheese$Call", "turner", "I", false)
  | 1 => ("EclipseCheese$Call", "at", "I", false)
  | 2 => ("EclipseCheese$Call", "lasts", "I", false)
  | _ => ("EclipseCheese$Call", "costs", "I", false)
def tyX1 : Nat → FieldType := fun k => match k with
  | 0 => .int
  | 1 => .int
  | 2 => .int
  | _ => .int
abbrev wsX10 : List Cond := u_ws RX1 TX1 4
theorem nmX1 : ∀ a, a < 4 → ∀ b, b < 4 → a ≠ b → (TX1 a).2.1 ≠ (TX1 b).2.1 := by decide +kernel
theorem tyX1_ok : ∀ k, k < 4 → parseFieldDescriptor (TX1 k).2.2.1 = some (tyX1 k) := by decide +kernel
abbrev cX1_init : ByteArray := prog_3_method_1_code
def yX1_init : MethodName := ⟨RX1, "<init>", "()V"⟩
def RX2 : String := "EclipseCheese$Event"
def TX2 : u_T := fun k => match k with
  | 0 => ("EclipseCheese$Event", "kind", "I", false)
  | 1 => ("EclipseCheese$Event", "hut", "I", false)
  | 2 => ("EclipseCheese$Event", "from", "I", false)
  | _ => ("EclipseCheese$Event", "to", "I", false)
def tyX2 : Nat → FieldType := fun k => match k with
  | 0 => .int
  | 1 => .int
  | 2 => .int
  | _ => .int
abbrev wsX20 : List Cond := u_ws RX2 TX2 4
theorem nmX2 : ∀ a, a < 4 → ∀ b, b < 4 → a ≠ b → (TX2 a).2.1 ≠ (TX2 b).2.1 := by decide +kernel
theorem tyX2_ok : ∀ k, k < 4 → parseFieldDescriptor (TX2 k).2.2.1 = some (tyX2 k) := by decide +kernel
abbrev cX2_init : ByteArray := prog_4_method_1_code
def yX2_init : MethodName := ⟨RX2, "<init>", "()V"⟩
def RX3 : String := "EclipseCheese$Held"
def TX3 : u_T := fun k => match k with
  | 0 => ("EclipseCheese$Held", "calls", "I", false)
  | 1 => ("EclipseCheese$Held", "seed", "I", false)
  | 2 => ("EclipseCheese$Held", "clouds", "I", false)
  | 3 => ("EclipseCheese$Held", "from", "[I", true)
  | _ => ("EclipseCheese$Held", "to", "[I", true)
def tyX3 : Nat → FieldType := fun k => match k with
  | 0 => .int
  | 1 => .int
  | 2 => .int
  | 3 => .array .int
  | _ => .array .int
abbrev wsX30 : List Cond := u_ws RX3 TX3 5
theorem nmX3 : ∀ a, a < 5 → ∀ b, b < 5 → a ≠ b → (TX3 a).2.1 ≠ (TX3 b).2.1 := by decide +kernel
theorem tyX3_ok : ∀ k, k < 5 → parseFieldDescriptor (TX3 k).2.2.1 = some (tyX3 k) := by decide +kernel
abbrev cX3_init : ByteArray := prog_5_method_1_code
def yX3_init : MethodName := ⟨RX3, "<init>", "()V"⟩
abbrev cX3_clear : ByteArray := prog_5_method_2_code
def yX3_clear : MethodName := ⟨RX3, "clear", "()V"⟩
abbrev cX3_become : ByteArray := prog_5_method_3_code
def yX3_become : MethodName := ⟨RX3, "become", "(LEclipseCheese$Held;)V"⟩
abbrev cX3_add : ByteArray := prog_5_method_4_code
def yX3_add : MethodName := ⟨RX3, "add", "(II)V"⟩
abbrev cX3_addDrawn : ByteArray := prog_5_method_5_code
def yX3_addDrawn : MethodName := ⟨RX3, "addDrawn", "(I)I"⟩
abbrev cX3_drawBelow : ByteArray := prog_5_method_6_code
def yX3_drawBelow : MethodName := ⟨RX3, "drawBelow", "(I)I"⟩
def RX4 : String := "EclipseCheese$Minutes"
def TX4 : u_T := fun k => match k with
  | 0 => ("EclipseCheese$Minutes", "count", "I", false)
  | _ => ("EclipseCheese$Minutes", "at", "[I", true)
def tyX4 : Nat → FieldType := fun k => match k with
  | 0 => .int
  | _ => .array .int
abbrev wsX40 : List Cond := u_ws RX4 TX4 2
theorem nmX4 : ∀ a, a < 2 → ∀ b, b < 2 → a ≠ b → (TX4 a).2.1 ≠ (TX4 b).2.1 := by decide +kernel
theorem tyX4_ok : ∀ k, k < 2 → parseFieldDescriptor (TX4 k).2.2.1 = some (tyX4 k) := by decide +kernel
abbrev cX4_init : ByteArray := prog_6_method_1_code
def yX4_init : MethodName := ⟨RX4, "<init>", "()V"⟩
abbrev cX4_holds : ByteArray := prog_6_method_2_code
def yX4_holds : MethodName := ⟨RX4, "holds", "(I)Z"⟩
def RX5 : String := "EclipseCheese$Night"
def TX5 : u_T := fun k => match k with
  | 0 => ("EclipseCheese$Night", "alp", "LEclipseCheese$Alp;", false)
  | 1 => ("EclipseCheese$Night", "sky", "LEclipseCheese$Sky;", false)
  | 2 => ("EclipseCheese$Night", "calls", "I", false)
  | 3 => ("EclipseCheese$Night", "hands", "[I", true)
  | 4 => ("EclipseCheese$Night", "right", "[I", true)
  | 5 => ("EclipseCheese$Night", "wrong", "[I", true)
  | 6 => ("EclipseCheese$Night", "missed", "[I", true)
  | 7 => ("EclipseCheese$Night", "cracked", "[I", true)
  | 8 => ("EclipseCheese$Night", "turns", "[I", true)
  | 9 => ("EclipseCheese$Night", "rightTurns", "[I", true)
  | 10 => ("EclipseCheese$Night", "rounds", "[I", true)
  | _ => ("EclipseCheese$Night", "freeFrom", "[I", true)
def tyX5 : Nat → FieldType := fun k => match k with
  | 0 => .object "EclipseCheese$Alp"
  | 1 => .object "EclipseCheese$Sky"
  | 2 => .int
  | 3 => .array .int
  | 4 => .array .int
  | 5 => .array .int
  | 6 => .array .int
  | 7 => .array .int
  | 8 => .array .int
  | 9 => .array .int
  | 10 => .array .int
  | _ => .array .int
abbrev wsX50 : List Cond := u_ws RX5 TX5 12
theorem nmX5 : ∀ a, a < 12 → ∀ b, b < 12 → a ≠ b → (TX5 a).2.1 ≠ (TX5 b).2.1 := by decide +kernel
theorem tyX5_ok : ∀ k, k < 12 → parseFieldDescriptor (TX5 k).2.2.1 = some (tyX5 k) := by decide +kernel
abbrev cX5_init : ByteArray := prog_7_method_1_code
def yX5_init : MethodName := ⟨RX5, "<init>", "(LEclipseCheese$Alp;LEclipseCheese$Sky;)V"⟩
abbrev cX5_play : ByteArray := prog_7_method_2_code
def yX5_play : MethodName := ⟨RX5, "play", "(LEclipseCheese$Alp;LEclipseCheese$Sky;II)V"⟩
abbrev cX5_forget : ByteArray := prog_7_method_3_code
def yX5_forget : MethodName := ⟨RX5, "forget", "()V"⟩
abbrev cX5_turnAll : ByteArray := prog_7_method_4_code
def yX5_turnAll : MethodName := ⟨RX5, "turnAll", "(II)I"⟩
abbrev cX5_turnSome : ByteArray := prog_7_method_5_code
def yX5_turnSome : MethodName := ⟨RX5, "turnSome", "(IIII)I"⟩
abbrev cX5_judge : ByteArray := prog_7_method_6_code
def yX5_judge : MethodName := ⟨RX5, "judge", "(III)V"⟩
abbrev cX5_isAwake : ByteArray := prog_7_method_7_code
def yX5_isAwake : MethodName := ⟨RX5, "isAwake", "(II)Z"⟩
abbrev cX5_isCalled : ByteArray := prog_7_method_8_code
def yX5_isCalled : MethodName := ⟨RX5, "isCalled", "(II)Z"⟩
abbrev cX5_noticedHuts : ByteArray := prog_7_method_9_code
def yX5_noticedHuts : MethodName := ⟨RX5, "noticedHuts", "(II)I"⟩
abbrev cX5_minutesAwake : ByteArray := prog_7_method_10_code
def yX5_minutesAwake : MethodName := ⟨RX5, "minutesAwake", "(I)I"⟩
abbrev cX5_turnerOf : ByteArray := prog_7_method_11_code
def yX5_turnerOf : MethodName := ⟨RX5, "turnerOf", "(II)I"⟩
abbrev cX5_isTurned : ByteArray := prog_7_method_12_code
def yX5_isTurned : MethodName := ⟨RX5, "isTurned", "(II)Z"⟩
abbrev cX5_liesUp : ByteArray := prog_7_method_13_code
def yX5_liesUp : MethodName := ⟨RX5, "liesUp", "(II)Z"⟩
abbrev cX5_minuteOfVein : ByteArray := prog_7_method_14_code
def yX5_minuteOfVein : MethodName := ⟨RX5, "minuteOfVein", "(II)I"⟩
abbrev cX5_cheesesWithVeins : ByteArray := prog_7_method_15_code
def yX5_cheesesWithVeins : MethodName := ⟨RX5, "cheesesWithVeins", "(LEclipseCheese$Minutes;)I"⟩
abbrev cX5_hasJustVeins : ByteArray := prog_7_method_16_code
def yX5_hasJustVeins : MethodName := ⟨RX5, "hasJustVeins", "(ILEclipseCheese$Minutes;)Z"⟩
abbrev cX5_missesAny : ByteArray := prog_7_method_17_code
def yX5_missesAny : MethodName := ⟨RX5, "missesAny", "()Z"⟩
abbrev cX5_price : ByteArray := prog_7_method_18_code
def yX5_price : MethodName := ⟨RX5, "price", "(I)I"⟩
abbrev cX5_sum : ByteArray := prog_7_method_19_code
def yX5_sum : MethodName := ⟨RX5, "sum", "()I"⟩
def RX6 : String := "EclipseCheese$Past"
def TX6 : u_T := fun k => match k with
  | 0 => ("EclipseCheese$Past", "actCount", "I", false)
  | 1 => ("EclipseCheese$Past", "acts", "[LEclipseCheese$Held;", true)
  | 2 => ("EclipseCheese$Past", "markCount", "I", false)
  | _ => ("EclipseCheese$Past", "marks", "[LEclipseCheese$Held;", true)
def tyX6 : Nat → FieldType := fun k => match k with
  | 0 => .int
  | 1 => .array (.object "EclipseCheese$Held")
  | 2 => .int
  | _ => .array (.object "EclipseCheese$Held")
abbrev wsX60 : List Cond := u_ws RX6 TX6 4
theorem nmX6 : ∀ a, a < 4 → ∀ b, b < 4 → a ≠ b → (TX6 a).2.1 ≠ (TX6 b).2.1 := by decide +kernel
theorem tyX6_ok : ∀ k, k < 4 → parseFieldDescriptor (TX6 k).2.2.1 = some (tyX6 k) := by decide +kernel
abbrev cX6_init : ByteArray := prog_8_method_1_code
def yX6_init : MethodName := ⟨RX6, "<init>", "()V"⟩
abbrev cX6_clear : ByteArray := prog_8_method_2_code
def yX6_clear : MethodName := ⟨RX6, "clear", "()V"⟩
abbrev cX6_keepAct : ByteArray := prog_8_method_3_code
def yX6_keepAct : MethodName := ⟨RX6, "keepAct", "(LEclipseCheese$Held;)V"⟩
abbrev cX6_dropOldestAct : ByteArray := prog_8_method_4_code
def yX6_dropOldestAct : MethodName := ⟨RX6, "dropOldestAct", "()V"⟩
abbrev cX6_takeBack : ByteArray := prog_8_method_5_code
def yX6_takeBack : MethodName := ⟨RX6, "takeBack", "(LEclipseCheese$Held;)Z"⟩
abbrev cX6_keepMark : ByteArray := prog_8_method_6_code
def yX6_keepMark : MethodName := ⟨RX6, "keepMark", "(LEclipseCheese$Held;)I"⟩
abbrev cX6_goBack : ByteArray := prog_8_method_7_code
def yX6_goBack : MethodName := ⟨RX6, "goBack", "(LEclipseCheese$Held;I)Z"⟩
def RX7 : String := "EclipseCheese$Reader"
def TX7 : u_T := fun k => match k with
  | 0 => ("EclipseCheese$Reader", "text", "[B", true)
  | 1 => ("EclipseCheese$Reader", "length", "I", false)
  | 2 => ("EclipseCheese$Reader", "next", "I", false)
  | 3 => ("EclipseCheese$Reader", "kind", "I", false)
  | 4 => ("EclipseCheese$Reader", "start", "I", false)
  | 5 => ("EclipseCheese$Reader", "word", "J", false)
  | 6 => ("EclipseCheese$Reader", "value", "I", false)
  | 7 => ("EclipseCheese$Reader", "number", "I", false)
  | 8 => ("EclipseCheese$Reader", "from", "I", false)
  | 9 => ("EclipseCheese$Reader", "to", "I", false)
  | 10 => ("EclipseCheese$Reader", "alp", "LEclipseCheese$Alp;", false)
  | 11 => ("EclipseCheese$Reader", "alpTold", "Z", false)
  | 12 => ("EclipseCheese$Reader", "almanacTold", "Z", false)
  | 13 => ("EclipseCheese$Reader", "cheeseNames", "[J", true)
  | 14 => ("EclipseCheese$Reader", "turnerNames", "[J", true)
  | 15 => ("EclipseCheese$Reader", "fault", "I", false)
  | _ => ("EclipseCheese$Reader", "place", "I", false)
def tyX7 : Nat → FieldType := fun k => match k with
  | 0 => .array .byte
  | 1 => .int
  | 2 => .int
  | 3 => .int
  | 4 => .int
  | 5 => .long
  | 6 => .int
  | 7 => .int
  | 8 => .int
  | 9 => .int
  | 10 => .object "EclipseCheese$Alp"
  | 11 => .boolean
  | 12 => .boolean
  | 13 => .array .long
  | 14 => .array .long
  | 15 => .int
  | _ => .int
abbrev wsX70 : List Cond := u_ws RX7 TX7 17
theorem nmX7 : ∀ a, a < 17 → ∀ b, b < 17 → a ≠ b → (TX7 a).2.1 ≠ (TX7 b).2.1 := by decide +kernel
theorem tyX7_ok : ∀ k, k < 17 → parseFieldDescriptor (TX7 k).2.2.1 = some (tyX7 k) := by decide +kernel
abbrev cX7_init : ByteArray := prog_9_method_1_code
def yX7_init : MethodName := ⟨RX7, "<init>", "([BLEclipseCheese$Alp;)V"⟩
abbrev cX7_readAll : ByteArray := prog_9_method_2_code
def yX7_readAll : MethodName := ⟨RX7, "readAll", "(LEclipseCheese$Alp;I)Z"⟩
abbrev cX7_fail : ByteArray := prog_9_method_3_code
def yX7_fail : MethodName := ⟨RX7, "fail", "(I)Z"⟩
abbrev cX7_step : ByteArray := prog_9_method_4_code
def yX7_step : MethodName := ⟨RX7, "step", "()V"⟩
abbrev cX7_stepWord : ByteArray := prog_9_method_5_code
def yX7_stepWord : MethodName := ⟨RX7, "stepWord", "()I"⟩
abbrev cX7_stepWhole : ByteArray := prog_9_method_6_code
def yX7_stepWhole : MethodName := ⟨RX7, "stepWhole", "()I"⟩
abbrev cX7_packed : ByteArray := prog_9_method_7_code
def yX7_packed : MethodName := ⟨RX7, "packed", "(Ljava/lang/String;)J"⟩
abbrev cX7_seesWord : ByteArray := prog_9_method_8_code
def yX7_seesWord : MethodName := ⟨RX7, "seesWord", "(Ljava/lang/String;)Z"⟩
abbrev cX7_takeWord : ByteArray := prog_9_method_9_code
def yX7_takeWord : MethodName := ⟨RX7, "takeWord", "(Ljava/lang/String;)Z"⟩
abbrev cX7_seesWhole : ByteArray := prog_9_method_10_code
def yX7_seesWhole : MethodName := ⟨RX7, "seesWhole", "(II)Z"⟩
abbrev cX7_takeWhole : ByteArray := prog_9_method_11_code
def yX7_takeWhole : MethodName := ⟨RX7, "takeWhole", "(II)Z"⟩
abbrev cX7_takeComma : ByteArray := prog_9_method_12_code
def yX7_takeComma : MethodName := ⟨RX7, "takeComma", "()Z"⟩
abbrev cX7_takeHut : ByteArray := prog_9_method_13_code
def yX7_takeHut : MethodName := ⟨RX7, "takeHut", "()Z"⟩
abbrev cX7_takeSpan : ByteArray := prog_9_method_14_code
def yX7_takeSpan : MethodName := ⟨RX7, "takeSpan", "()Z"⟩
abbrev cX7_lineWord : ByteArray := prog_9_method_15_code
def yX7_lineWord : MethodName := ⟨RX7, "lineWord", "(I)Ljava/lang/String;"⟩
abbrev cX7_sortOfWord : ByteArray := prog_9_method_16_code
def yX7_sortOfWord : MethodName := ⟨RX7, "sortOfWord", "()I"⟩
abbrev cX7_isToldAgain : ByteArray := prog_9_method_17_code
def yX7_isToldAgain : MethodName := ⟨RX7, "isToldAgain", "(I)Z"⟩
abbrev cX7_isFull : ByteArray := prog_9_method_18_code
def yX7_isFull : MethodName := ⟨RX7, "isFull", "(I)Z"⟩
abbrev cX7_readLine : ByteArray := prog_9_method_19_code
def yX7_readLine : MethodName := ⟨RX7, "readLine", "()Z"⟩
abbrev cX7_readAlp : ByteArray := prog_9_method_20_code
def yX7_readAlp : MethodName := ⟨RX7, "readAlp", "()Z"⟩
abbrev cX7_readEvent : ByteArray := prog_9_method_21_code
def yX7_readEvent : MethodName := ⟨RX7, "readEvent", "(I)Z"⟩
abbrev cX7_readCheese : ByteArray := prog_9_method_22_code
def yX7_readCheese : MethodName := ⟨RX7, "readCheese", "()Z"⟩
abbrev cX7_readTurner : ByteArray := prog_9_method_23_code
def yX7_readTurner : MethodName := ⟨RX7, "readTurner", "()Z"⟩
abbrev cX7_turnerKind : ByteArray := prog_9_method_24_code
def yX7_turnerKind : MethodName := ⟨RX7, "turnerKind", "()I"⟩
abbrev cX7_readHuts : ByteArray := prog_9_method_25_code
def yX7_readHuts : MethodName := ⟨RX7, "readHuts", "(LEclipseCheese$Turner;)Z"⟩
abbrev cX7_readCall : ByteArray := prog_9_method_26_code
def yX7_readCall : MethodName := ⟨RX7, "readCall", "()Z"⟩
abbrev cX7_readMinutes : ByteArray := prog_9_method_27_code
def yX7_readMinutes : MethodName := ⟨RX7, "readMinutes", "(LEclipseCheese$Minutes;)Z"⟩
abbrev cX7_seesName : ByteArray := prog_9_method_28_code
def yX7_seesName : MethodName := ⟨RX7, "seesName", "()Z"⟩
abbrev cX7_seesNewName : ByteArray := prog_9_method_29_code
def yX7_seesNewName : MethodName := ⟨RX7, "seesNewName", "()Z"⟩
abbrev cX7_isToldCheese : ByteArray := prog_9_method_30_code
def yX7_isToldCheese : MethodName := ⟨RX7, "isToldCheese", "()Z"⟩
abbrev cX7_namedTurner : ByteArray := prog_9_method_31_code
def yX7_namedTurner : MethodName := ⟨RX7, "namedTurner", "()I"⟩
def RX8 : String := "EclipseCheese$Sky"
def TX8 : u_T := fun k => match k with
  | 0 => ("EclipseCheese$Sky", "minutes", "I", false)
  | 1 => ("EclipseCheese$Sky", "allHuts", "I", false)
  | 2 => ("EclipseCheese$Sky", "eclipsed", "[Z", true)
  | 3 => ("EclipseCheese$Sky", "lightning", "[Z", true)
  | 4 => ("EclipseCheese$Sky", "clouded", "[Z", true)
  | 5 => ("EclipseCheese$Sky", "shuttered", "[I", true)
  | 6 => ("EclipseCheese$Sky", "bright", "[I", true)
  | 7 => ("EclipseCheese$Sky", "seeming", "[I", true)
  | 8 => ("EclipseCheese$Sky", "changed", "[I", true)
  | 9 => ("EclipseCheese$Sky", "seemed", "[I", true)
  | 10 => ("EclipseCheese$Sky", "stirCount", "I", false)
  | _ => ("EclipseCheese$Sky", "stirs", "[I", true)
def tyX8 : Nat → FieldType := fun k => match k with
  | 0 => .int
  | 1 => .int
  | 2 => .array .boolean
  | 3 => .array .boolean
  | 4 => .array .boolean
  | 5 => .array .int
  | 6 => .array .int
  | 7 => .array .int
  | 8 => .array .int
  | 9 => .array .int
  | 10 => .int
  | _ => .array .int
abbrev wsX80 : List Cond := u_ws RX8 TX8 12
theorem nmX8 : ∀ a, a < 12 → ∀ b, b < 12 → a ≠ b → (TX8 a).2.1 ≠ (TX8 b).2.1 := by decide +kernel
theorem tyX8_ok : ∀ k, k < 12 → parseFieldDescriptor (TX8 k).2.2.1 = some (tyX8 k) := by decide +kernel
abbrev cX8_init : ByteArray := prog_10_method_1_code
def yX8_init : MethodName := ⟨RX8, "<init>", "()V"⟩
abbrev cX8_build : ByteArray := prog_10_method_2_code
def yX8_build : MethodName := ⟨RX8, "build", "(LEclipseCheese$Alp;LEclipseCheese$Held;I)V"⟩
abbrev cX8_wipe : ByteArray := prog_10_method_3_code
def yX8_wipe : MethodName := ⟨RX8, "wipe", "()V"⟩
abbrev cX8_layCloud : ByteArray := prog_10_method_4_code
def yX8_layCloud : MethodName := ⟨RX8, "layCloud", "(II)V"⟩
abbrev cX8_layEvent : ByteArray := prog_10_method_5_code
def yX8_layEvent : MethodName := ⟨RX8, "layEvent", "(LEclipseCheese$Event;)V"⟩
abbrev cX8_findLight : ByteArray := prog_10_method_6_code
def yX8_findLight : MethodName := ⟨RX8, "findLight", "()V"⟩
abbrev cX8_findStirs : ByteArray := prog_10_method_7_code
def yX8_findStirs : MethodName := ⟨RX8, "findStirs", "(LEclipseCheese$Minutes;)V"⟩
abbrev cX8_isBright : ByteArray := prog_10_method_8_code
def yX8_isBright : MethodName := ⟨RX8, "isBright", "(I)Z"⟩
abbrev cX8_crackingHuts : ByteArray := prog_10_method_9_code
def yX8_crackingHuts : MethodName := ⟨RX8, "crackingHuts", "(I)I"⟩
def RX9 : String := "EclipseCheese$Turner"
def TX9 : u_T := fun k => match k with
  | 0 => ("EclipseCheese$Turner", "kind", "I", false)
  | 1 => ("EclipseCheese$Turner", "from", "I", false)
  | 2 => ("EclipseCheese$Turner", "to", "I", false)
  | 3 => ("EclipseCheese$Turner", "hands", "I", false)
  | 4 => ("EclipseCheese$Turner", "takes", "I", false)
  | _ => ("EclipseCheese$Turner", "huts", "I", false)
def tyX9 : Nat → FieldType := fun k => match k with
  | 0 => .int
  | 1 => .int
  | 2 => .int
  | 3 => .int
  | 4 => .int
  | _ => .int
abbrev wsX90 : List Cond := u_ws RX9 TX9 6
theorem nmX9 : ∀ a, a < 6 → ∀ b, b < 6 → a ≠ b → (TX9 a).2.1 ≠ (TX9 b).2.1 := by decide +kernel
theorem tyX9_ok : ∀ k, k < 6 → parseFieldDescriptor (TX9 k).2.2.1 = some (tyX9 k) := by decide +kernel
abbrev cX9_init : ByteArray := prog_11_method_1_code
def yX9_init : MethodName := ⟨RX9, "<init>", "()V"⟩
def RX10 : String := "EclipseCheese"
def TX10 : u_T := fun k => match k with
  | 0 => ("EclipseCheese", "tape", "[B", true)
  | 1 => ("EclipseCheese", "tapeLength", "I", false)
  | 2 => ("EclipseCheese", "alp", "LEclipseCheese$Alp;", false)
  | 3 => ("EclipseCheese", "draft", "LEclipseCheese$Alp;", false)
  | 4 => ("EclipseCheese", "reader", "LEclipseCheese$Reader;", true)
  | 5 => ("EclipseCheese", "hasAlp", "Z", false)
  | 6 => ("EclipseCheese", "now", "LEclipseCheese$Held;", true)
  | 7 => ("EclipseCheese", "past", "LEclipseCheese$Past;", true)
  | 8 => ("EclipseCheese", "sky", "LEclipseCheese$Sky;", true)
  | 9 => ("EclipseCheese", "skyStands", "Z", false)
  | 10 => ("EclipseCheese", "night", "LEclipseCheese$Night;", true)
  | 11 => ("EclipseCheese", "nightStands", "Z", false)
  | 12 => ("EclipseCheese", "otherHeld", "LEclipseCheese$Held;", true)
  | 13 => ("EclipseCheese", "otherSky", "LEclipseCheese$Sky;", true)
  | 14 => ("EclipseCheese", "otherNight", "LEclipseCheese$Night;", true)
  | 15 => ("EclipseCheese", "fault", "I", false)
  | 16 => ("EclipseCheese", "place", "I", false)
  | _ => ("EclipseCheese", "trouble", "I", false)
def tyX10 : Nat → FieldType := fun k => match k with
  | 0 => .array .byte
  | 1 => .int
  | 2 => .object "EclipseCheese$Alp"
  | 3 => .object "EclipseCheese$Alp"
  | 4 => .object "EclipseCheese$Reader"
  | 5 => .boolean
  | 6 => .object "EclipseCheese$Held"
  | 7 => .object "EclipseCheese$Past"
  | 8 => .object "EclipseCheese$Sky"
  | 9 => .boolean
  | 10 => .object "EclipseCheese$Night"
  | 11 => .boolean
  | 12 => .object "EclipseCheese$Held"
  | 13 => .object "EclipseCheese$Sky"
  | 14 => .object "EclipseCheese$Night"
  | 15 => .int
  | 16 => .int
  | _ => .int
abbrev wsX100 : List Cond := u_ws RX10 TX10 18
theorem nmX10 : ∀ a, a < 18 → ∀ b, b < 18 → a ≠ b → (TX10 a).2.1 ≠ (TX10 b).2.1 := by decide +kernel
theorem tyX10_ok : ∀ k, k < 18 → parseFieldDescriptor (TX10 k).2.2.1 = some (tyX10 k) := by decide +kernel
abbrev cX10_init : ByteArray := prog_1_method_1_code
def yX10_init : MethodName := ⟨RX10, "<init>", "()V"⟩
abbrev cX10_feed : ByteArray := prog_1_method_2_code
def yX10_feed : MethodName := ⟨RX10, "feed", "(IIIII)I"⟩
abbrev cX10_alp : ByteArray := prog_1_method_3_code
def yX10_alp : MethodName := ⟨RX10, "alp", "(I)I"⟩
abbrev cX10_fault : ByteArray := prog_1_method_4_code
def yX10_fault : MethodName := ⟨RX10, "fault", "()I"⟩
abbrev cX10_where : ByteArray := prog_1_method_5_code
def yX10_where : MethodName := ⟨RX10, "where", "()I"⟩
abbrev cX10_sky : ByteArray := prog_1_method_6_code
def yX10_sky : MethodName := ⟨RX10, "sky", "(I)I"⟩
abbrev cX10_light : ByteArray := prog_1_method_7_code
def yX10_light : MethodName := ⟨RX10, "light", "(IIZ)I"⟩
abbrev cX10_changes : ByteArray := prog_1_method_8_code
def yX10_changes : MethodName := ⟨RX10, "changes", "(IZ)I"⟩
abbrev cX10_change : ByteArray := prog_1_method_9_code
def yX10_change : MethodName := ⟨RX10, "change", "(II)I"⟩
abbrev cX10_peak : ByteArray := prog_1_method_10_code
def yX10_peak : MethodName := ⟨RX10, "peak", "()I"⟩
abbrev cX10_due : ByteArray := prog_1_method_11_code
def yX10_due : MethodName := ⟨RX10, "due", "(I)I"⟩
abbrev cX10_awake : ByteArray := prog_1_method_12_code
def yX10_awake : MethodName := ⟨RX10, "awake", "(II)I"⟩
abbrev cX10_notices : ByteArray := prog_1_method_13_code
def yX10_notices : MethodName := ⟨RX10, "notices", "(III)I"⟩
abbrev cX10_work : ByteArray := prog_1_method_14_code
def yX10_work : MethodName := ⟨RX10, "work", "(II)I"⟩
abbrev cX10_worth : ByteArray := prog_1_method_15_code
def yX10_worth : MethodName := ⟨RX10, "worth", "(I)I"⟩
abbrev cX10_turned : ByteArray := prog_1_method_16_code
def yX10_turned : MethodName := ⟨RX10, "turned", "(II)I"⟩
abbrev cX10_up : ByteArray := prog_1_method_17_code
def yX10_up : MethodName := ⟨RX10, "up", "(II)I"⟩
abbrev cX10_cheese : ByteArray := prog_1_method_18_code
def yX10_cheese : MethodName := ⟨RX10, "cheese", "(II)I"⟩
abbrev cX10_vein : ByteArray := prog_1_method_19_code
def yX10_vein : MethodName := ⟨RX10, "vein", "(II)I"⟩
abbrev cX10_cause : ByteArray := prog_1_method_20_code
def yX10_cause : MethodName := ⟨RX10, "cause", "(II)I"⟩
abbrev cX10_total : ByteArray := prog_1_method_21_code
def yX10_total : MethodName := ⟨RX10, "total", "()I"⟩
abbrev cX10_without : ByteArray := prog_1_method_22_code
def yX10_without : MethodName := ⟨RX10, "without", "(I)I"⟩
abbrev cX10_wake : ByteArray := prog_1_method_23_code
def yX10_wake : MethodName := ⟨RX10, "wake", "()I"⟩
abbrev cX10_wakeTotal : ByteArray := prog_1_method_24_code
def yX10_wakeTotal : MethodName := ⟨RX10, "wakeTotal", "()I"⟩
abbrev cX10_fewest : ByteArray := prog_1_method_25_code
def yX10_fewest : MethodName := ⟨RX10, "fewest", "()I"⟩
abbrev cX10_fewestBy : ByteArray := prog_1_method_26_code
def yX10_fewestBy : MethodName := ⟨RX10, "fewestBy", "()I"⟩
abbrev cX10_fits : ByteArray := prog_1_method_27_code
def yX10_fits : MethodName := ⟨RX10, "fits", "(I)I"⟩
abbrev cX10_by : ByteArray := prog_1_method_28_code
def yX10_by : MethodName := ⟨RX10, "by", "(I)I"⟩
abbrev cX10_nights : ByteArray := prog_1_method_29_code
def yX10_nights : MethodName := ⟨RX10, "nights", "(III)I"⟩
abbrev cX10_call : ByteArray := prog_1_method_30_code
def yX10_call : MethodName := ⟨RX10, "call", "(IZ)Z"⟩
abbrev cX10_calls : ByteArray := prog_1_method_31_code
def yX10_calls : MethodName := ⟨RX10, "calls", "()I"⟩
abbrev cX10_cloud : ByteArray := prog_1_method_32_code
def yX10_cloud : MethodName := ⟨RX10, "cloud", "(II)Z"⟩
abbrev cX10_draw : ByteArray := prog_1_method_33_code
def yX10_draw : MethodName := ⟨RX10, "draw", "()I"⟩
abbrev cX10_lift : ByteArray := prog_1_method_34_code
def yX10_lift : MethodName := ⟨RX10, "lift", "()Z"⟩
abbrev cX10_seed : ByteArray := prog_1_method_35_code
def yX10_seed : MethodName := ⟨RX10, "seed", "(I)Z"⟩
abbrev cX10_undo : ByteArray := prog_1_method_36_code
def yX10_undo : MethodName := ⟨RX10, "undo", "()Z"⟩
abbrev cX10_mark : ByteArray := prog_1_method_37_code
def yX10_mark : MethodName := ⟨RX10, "mark", "()I"⟩
abbrev cX10_back : ByteArray := prog_1_method_38_code
def yX10_back : MethodName := ⟨RX10, "back", "(I)Z"⟩
abbrev cX10_event : ByteArray := prog_1_method_39_code
def yX10_event : MethodName := ⟨RX10, "event", "(II)I"⟩
abbrev cX10_led : ByteArray := prog_1_method_40_code
def yX10_led : MethodName := ⟨RX10, "led", "(I)I"⟩
abbrev cX10_size : ByteArray := prog_1_method_41_code
def yX10_size : MethodName := ⟨RX10, "size", "(I)I"⟩
abbrev cX10_trouble : ByteArray := prog_1_method_42_code
def yX10_trouble : MethodName := ⟨RX10, "trouble", "()I"⟩
abbrev cX10_answered : ByteArray := prog_1_method_43_code
def yX10_answered : MethodName := ⟨RX10, "answered", "(I)I"⟩
abbrev cX10_allowed : ByteArray := prog_1_method_44_code
def yX10_allowed : MethodName := ⟨RX10, "allowed", "()Z"⟩
abbrev cX10_refused : ByteArray := prog_1_method_45_code
def yX10_refused : MethodName := ⟨RX10, "refused", "(I)I"⟩
abbrev cX10_refusedTotal : ByteArray := prog_1_method_46_code
def yX10_refusedTotal : MethodName := ⟨RX10, "refusedTotal", "(I)I"⟩
abbrev cX10_refusedAct : ByteArray := prog_1_method_47_code
def yX10_refusedAct : MethodName := ⟨RX10, "refusedAct", "(I)Z"⟩
abbrev cX10_isMinute : ByteArray := prog_1_method_48_code
def yX10_isMinute : MethodName := ⟨RX10, "isMinute", "(I)Z"⟩
abbrev cX10_isHut : ByteArray := prog_1_method_49_code
def yX10_isHut : MethodName := ⟨RX10, "isHut", "(I)Z"⟩
abbrev cX10_isTurner : ByteArray := prog_1_method_50_code
def yX10_isTurner : MethodName := ⟨RX10, "isTurner", "(I)Z"⟩
abbrev cX10_isCheese : ByteArray := prog_1_method_51_code
def yX10_isCheese : MethodName := ⟨RX10, "isCheese", "(I)Z"⟩
abbrev cX10_isSlice : ByteArray := prog_1_method_52_code
def yX10_isSlice : MethodName := ⟨RX10, "isSlice", "(I)Z"⟩
abbrev cX10_isEvent : ByteArray := prog_1_method_53_code
def yX10_isEvent : MethodName := ⟨RX10, "isEvent", "(I)Z"⟩
abbrev cX10_isSeed : ByteArray := prog_1_method_54_code
def yX10_isSeed : MethodName := ⟨RX10, "isSeed", "(I)Z"⟩
abbrev cX10_bit : ByteArray := prog_1_method_55_code
def yX10_bit : MethodName := ⟨RX10, "bit", "(II)I"⟩
abbrev cX10_putBytes : ByteArray := prog_1_method_56_code
def yX10_putBytes : MethodName := ⟨RX10, "putBytes", "(I)V"⟩
abbrev cX10_cloudsMoved : ByteArray := prog_1_method_57_code
def yX10_cloudsMoved : MethodName := ⟨RX10, "cloudsMoved", "()V"⟩
abbrev cX10_presentSky : ByteArray := prog_1_method_58_code
def yX10_presentSky : MethodName := ⟨RX10, "presentSky", "()LEclipseCheese$Sky;"⟩
abbrev cX10_presentNight : ByteArray := prog_1_method_59_code
def yX10_presentNight : MethodName := ⟨RX10, "presentNight", "()LEclipseCheese$Night;"⟩
abbrev cX10_allTurners : ByteArray := prog_1_method_60_code
def yX10_allTurners : MethodName := ⟨RX10, "allTurners", "()I"⟩
abbrev cX10_allCalls : ByteArray := prog_1_method_61_code
def yX10_allCalls : MethodName := ⟨RX10, "allCalls", "()I"⟩
abbrev cX10_eventCount : ByteArray := prog_1_method_62_code
def yX10_eventCount : MethodName := ⟨RX10, "eventCount", "()I"⟩
abbrev cX10_eventFrom : ByteArray := prog_1_method_63_code
def yX10_eventFrom : MethodName := ⟨RX10, "eventFrom", "(I)I"⟩
abbrev cX10_eventTo : ByteArray := prog_1_method_64_code
def yX10_eventTo : MethodName := ⟨RX10, "eventTo", "(I)I"⟩
abbrev cX10_veinMinute : ByteArray := prog_1_method_65_code
def yX10_veinMinute : MethodName := ⟨RX10, "veinMinute", "(II)I"⟩
abbrev cX10_bestCalls : ByteArray := prog_1_method_66_code
def yX10_bestCalls : MethodName := ⟨RX10, "bestCalls", "()I"⟩
abbrev cX10_fewestTurners : ByteArray := prog_1_method_67_code
def yX10_fewestTurners : MethodName := ⟨RX10, "fewestTurners", "()I"⟩
def RX11 : String := "EclipseCheeseModel$Alp"
def TX11 : u_T := fun k => match k with
  | 0 => ("EclipseCheeseModel$Alp", "minutes", "I", false)
  | 1 => ("EclipseCheeseModel$Alp", "huts", "I", false)
  | 2 => ("EclipseCheeseModel$Alp", "events", "I", false)
  | 3 => ("EclipseCheeseModel$Alp", "cheeses", "I", false)
  | 4 => ("EclipseCheeseModel$Alp", "turners", "I", false)
  | 5 => ("EclipseCheeseModel$Alp", "calls", "I", false)
  | 6 => ("EclipseCheeseModel$Alp", "slices", "I", false)
  | 7 => ("EclipseCheeseModel$Alp", "names", "I", false)
  | 8 => ("EclipseCheeseModel$Alp", "almanacMany", "I", false)
  | 9 => ("EclipseCheeseModel$Alp", "hasAlmanac", "Z", false)
  | 10 => ("EclipseCheeseModel$Alp", "price", "[I", true)
  | 11 => ("EclipseCheeseModel$Alp", "kind", "[I", true)
  | 12 => ("EclipseCheeseModel$Alp", "hut", "[I", true)
  | 13 => ("EclipseCheeseModel$Alp", "from", "[I", true)
  | 14 => ("EclipseCheeseModel$Alp", "to", "[I", true)
  | 15 => ("EclipseCheeseModel$Alp", "cheeseHut", "[I", true)
  | 16 => ("EclipseCheeseModel$Alp", "almanac", "[I", true)
  | 17 => ("EclipseCheeseModel$Alp", "sliceMany", "[I", true)
  | 18 => ("EclipseCheeseModel$Alp", "slice", "[I", true)
  | 19 => ("EclipseCheeseModel$Alp", "isDown", "[Z", true)
  | 20 => ("EclipseCheeseModel$Alp", "turnerKind", "[I", true)
  | 21 => ("EclipseCheeseModel$Alp", "turnerFrom", "[I", true)
  | 22 => ("EclipseCheeseModel$Alp", "turnerTo", "[I", true)
  | 23 => ("EclipseCheeseModel$Alp", "hands", "[I", true)
  | 24 => ("EclipseCheeseModel$Alp", "takes", "[I", true)
  | 25 => ("EclipseCheeseModel$Alp", "turnerHuts", "[I", true)
  | 26 => ("EclipseCheeseModel$Alp", "callTurner", "[I", true)
  | 27 => ("EclipseCheeseModel$Alp", "callAt", "[I", true)
  | 28 => ("EclipseCheeseModel$Alp", "callFor", "[I", true)
  | 29 => ("EclipseCheeseModel$Alp", "callCosts", "[I", true)
  | 30 => ("EclipseCheeseModel$Alp", "name", "[J", true)
  | 31 => ("EclipseCheeseModel$Alp", "nameSort", "[I", true)
  | _ => ("EclipseCheeseModel$Alp", "nameNumber", "[I", true)
def tyX11 : Nat → FieldType := fun k => match k with
  | 0 => .int
  | 1 => .int
  | 2 => .int
  | 3 => .int
  | 4 => .int
  | 5 => .int
  | 6 => .int
  | 7 => .int
  | 8 => .int
  | 9 => .boolean
  | 10 => .array .int
  | 11 => .array .int
  | 12 => .array .int
  | 13 => .array .int
  | 14 => .array .int
  | 15 => .array .int
  | 16 => .array .int
  | 17 => .array .int
  | 18 => .array .int
  | 19 => .array .boolean
  | 20 => .array .int
  | 21 => .array .int
  | 22 => .array .int
  | 23 => .array .int
  | 24 => .array .int
  | 25 => .array .int
  | 26 => .array .int
  | 27 => .array .int
  | 28 => .array .int
  | 29 => .array .int
  | 30 => .array .long
  | 31 => .array .int
  | _ => .array .int
abbrev wsX110 : List Cond := u_ws RX11 TX11 33
theorem nmX11 : ∀ a, a < 33 → ∀ b, b < 33 → a ≠ b → (TX11 a).2.1 ≠ (TX11 b).2.1 := by decide +kernel
theorem tyX11_ok : ∀ k, k < 33 → parseFieldDescriptor (TX11 k).2.2.1 = some (tyX11 k) := by decide +kernel
abbrev cX11_init : ByteArray := prog_14_method_1_code
def yX11_init : MethodName := ⟨RX11, "<init>", "()V"⟩
abbrev cX11_find : ByteArray := prog_14_method_2_code
def yX11_find : MethodName := ⟨RX11, "find", "(J)I"⟩
def RX12 : String := "EclipseCheeseModel"
def TX12 : u_T := fun k => match k with
  | 0 => ("EclipseCheeseModel", "thrown", "I", false)
  | 1 => ("EclipseCheeseModel", "trouble", "I", false)
  | 2 => ("EclipseCheeseModel", "where", "I", false)
  | 3 => ("EclipseCheeseModel", "alp", "LEclipseCheeseModel$Alp;", false)
  | 4 => ("EclipseCheeseModel", "read", "LEclipseCheeseModel$Alp;", false)
  | 5 => ("EclipseCheeseModel", "tape", "[B", true)
  | 6 => ("EclipseCheeseModel", "taped", "I", false)
  | 7 => ("EclipseCheeseModel", "size", "I", false)
  | 8 => ("EclipseCheeseModel", "spot", "I", false)
  | 9 => ("EclipseCheeseModel", "sort", "I", false)
  | 10 => ("EclipseCheeseModel", "place", "I", false)
  | 11 => ("EclipseCheeseModel", "sign", "I", false)
  | 12 => ("EclipseCheeseModel", "number", "I", false)
  | 13 => ("EclipseCheeseModel", "fault", "I", false)
  | 14 => ("EclipseCheeseModel", "wrongAt", "I", false)
  | 15 => ("EclipseCheeseModel", "word", "J", false)
  | 16 => ("EclipseCheeseModel", "w", "[I", true)
  | 17 => ("EclipseCheeseModel", "past", "[I", true)
  | 18 => ("EclipseCheeseModel", "kept", "[I", true)
  | 19 => ("EclipseCheeseModel", "acts", "I", false)
  | 20 => ("EclipseCheeseModel", "marks", "I", false)
  | 21 => ("EclipseCheeseModel", "sky", "[Z", true)
  | 22 => ("EclipseCheeseModel", "light", "[Z", true)
  | 23 => ("EclipseCheeseModel", "seems", "[Z", true)
  | 24 => ("EclipseCheeseModel", "eclipsed", "[Z", true)
  | 25 => ("EclipseCheeseModel", "struck", "[Z", true)
  | 26 => ("EclipseCheeseModel", "shut", "[Z", true)
  | 27 => ("EclipseCheeseModel", "turnedBy", "[I", true)
  | 28 => ("EclipseCheeseModel", "free", "[I", true)
  | 29 => ("EclipseCheeseModel", "right", "[I", true)
  | 30 => ("EclipseCheeseModel", "missed", "[I", true)
  | 31 => ("EclipseCheeseModel", "wrong", "[I", true)
  | 32 => ("EclipseCheeseModel", "cracked", "[I", true)
  | 33 => ("EclipseCheeseModel", "isUp", "[Z", true)
  | 34 => ("EclipseCheeseModel", "wakeBest", "I", false)
  | _ => ("EclipseCheeseModel", "held", "[I", true)
def tyX12 : Nat → FieldType := fun k => match k with
  | 0 => .int
  | 1 => .int
  | 2 => .int
  | 3 => .object "EclipseCheeseModel$Alp"
  | 4 => .object "EclipseCheeseModel$Alp"
  | 5 => .array .byte
  | 6 => .int
  | 7 => .int
  | 8 => .int
  | 9 => .int
  | 10 => .int
  | 11 => .int
  | 12 => .int
  | 13 => .int
  | 14 => .int
  | 15 => .long
  | 16 => .array .int
  | 17 => .array .int
  | 18 => .array .int
  | 19 => .int
  | 20 => .int
  | 21 => .array .boolean
  | 22 => .array .boolean
  | 23 => .array .boolean
  | 24 => .array .boolean
  | 25 => .array .boolean
  | 26 => .array .boolean
  | 27 => .array .int
  | 28 => .array .int
  | 29 => .array .int
  | 30 => .array .int
  | 31 => .array .int
  | 32 => .array .int
  | 33 => .array .boolean
  | 34 => .int
  | _ => .array .int
abbrev wsX120 : List Cond := u_ws RX12 TX12 36
theorem nmX12 : ∀ a, a < 36 → ∀ b, b < 36 → a ≠ b → (TX12 a).2.1 ≠ (TX12 b).2.1 := by decide +kernel
theorem tyX12_ok : ∀ k, k < 36 → parseFieldDescriptor (TX12 k).2.2.1 = some (tyX12 k) := by decide +kernel
abbrev cX12_init : ByteArray := prog_13_method_1_code
def yX12_init : MethodName := ⟨RX12, "<init>", "()V"⟩
abbrev cX12_thrown : ByteArray := prog_13_method_2_code
def yX12_thrown : MethodName := ⟨RX12, "thrown", "()I"⟩
abbrev cX12_refused : ByteArray := prog_13_method_3_code
def yX12_refused : MethodName := ⟨RX12, "refused", "(I)I"⟩
abbrev cX12_lost : ByteArray := prog_13_method_4_code
def yX12_lost : MethodName := ⟨RX12, "lost", "(I)I"⟩
abbrev cX12_denied : ByteArray := prog_13_method_5_code
def yX12_denied : MethodName := ⟨RX12, "denied", "(I)Z"⟩
abbrev cX12_good : ByteArray := prog_13_method_6_code
def yX12_good : MethodName := ⟨RX12, "good", "(I)I"⟩
abbrev cX12_granted : ByteArray := prog_13_method_7_code
def yX12_granted : MethodName := ⟨RX12, "granted", "()Z"⟩
abbrev cX12_in : ByteArray := prog_13_method_8_code
def yX12_in : MethodName := ⟨RX12, "in", "(III)Z"⟩
abbrev cX12_has : ByteArray := prog_13_method_9_code
def yX12_has : MethodName := ⟨RX12, "has", "(II)Z"⟩
abbrev cX12_bits : ByteArray := prog_13_method_10_code
def yX12_bits : MethodName := ⟨RX12, "bits", "(I)I"⟩
abbrev cX12_byteAt : ByteArray := prog_13_method_11_code
def yX12_byteAt : MethodName := ⟨RX12, "byteAt", "(I)I"⟩
abbrev cX12_isLetter : ByteArray := prog_13_method_12_code
def yX12_isLetter : MethodName := ⟨RX12, "isLetter", "(I)Z"⟩
abbrev cX12_isDigit : ByteArray := prog_13_method_13_code
def yX12_isDigit : MethodName := ⟨RX12, "isDigit", "(I)Z"⟩
abbrev cX12_wordOf : ByteArray := prog_13_method_14_code
def yX12_wordOf : MethodName := ⟨RX12, "wordOf", "(Ljava/lang/String;)J"⟩
abbrev cX12_goesOn : ByteArray := prog_13_method_15_code
def yX12_goesOn : MethodName := ⟨RX12, "goesOn", "()V"⟩
abbrev cX12_flaw : ByteArray := prog_13_method_16_code
def yX12_flaw : MethodName := ⟨RX12, "flaw", "(I)V"⟩
abbrev cX12_isWord : ByteArray := prog_13_method_17_code
def yX12_isWord : MethodName := ⟨RX12, "isWord", "(Ljava/lang/String;)Z"⟩
abbrev cX12_eatsWord : ByteArray := prog_13_method_18_code
def yX12_eatsWord : MethodName := ⟨RX12, "eatsWord", "(Ljava/lang/String;)Z"⟩
abbrev cX12_eatsSign : ByteArray := prog_13_method_19_code
def yX12_eatsSign : MethodName := ⟨RX12, "eatsSign", "(I)Z"⟩
abbrev cX12_needs : ByteArray := prog_13_method_20_code
def yX12_needs : MethodName := ⟨RX12, "needs", "(Ljava/lang/String;)V"⟩
abbrev cX12_needsSign : ByteArray := prog_13_method_21_code
def yX12_needsSign : MethodName := ⟨RX12, "needsSign", "(I)V"⟩
abbrev cX12_bounded : ByteArray := prog_13_method_22_code
def yX12_bounded : MethodName := ⟨RX12, "bounded", "(II)I"⟩
abbrev cX12_readWhole : ByteArray := prog_13_method_23_code
def yX12_readWhole : MethodName := ⟨RX12, "readWhole", "(II)I"⟩
abbrev cX12_readPart : ByteArray := prog_13_method_24_code
def yX12_readPart : MethodName := ⟨RX12, "readPart", "(Ljava/lang/String;II)I"⟩
abbrev cX12_isName : ByteArray := prog_13_method_25_code
def yX12_isName : MethodName := ⟨RX12, "isName", "()Z"⟩
abbrev cX12_begins : ByteArray := prog_13_method_26_code
def yX12_begins : MethodName := ⟨RX12, "begins", "(II)V"⟩
abbrev cX12_readFresh : ByteArray := prog_13_method_27_code
def yX12_readFresh : MethodName := ⟨RX12, "readFresh", "()J"⟩
abbrev cX12_names : ByteArray := prog_13_method_28_code
def yX12_names : MethodName := ⟨RX12, "names", "(JII)V"⟩
abbrev cX12_readAll : ByteArray := prog_13_method_29_code
def yX12_readAll : MethodName := ⟨RX12, "readAll", "()V"⟩
abbrev cX12_readLine : ByteArray := prog_13_method_30_code
def yX12_readLine : MethodName := ⟨RX12, "readLine", "()V"⟩
abbrev cX12_readAlp : ByteArray := prog_13_method_31_code
def yX12_readAlp : MethodName := ⟨RX12, "readAlp", "()V"⟩
abbrev cX12_readEvent : ByteArray := prog_13_method_32_code
def yX12_readEvent : MethodName := ⟨RX12, "readEvent", "(I)V"⟩
abbrev cX12_readCheese : ByteArray := prog_13_method_33_code
def yX12_readCheese : MethodName := ⟨RX12, "readCheese", "()V"⟩
abbrev cX12_readRising : ByteArray := prog_13_method_34_code
def yX12_readRising : MethodName := ⟨RX12, "readRising", "([III)I"⟩
abbrev cX12_readAlmanac : ByteArray := prog_13_method_35_code
def yX12_readAlmanac : MethodName := ⟨RX12, "readAlmanac", "()V"⟩
abbrev cX12_readTurner : ByteArray := prog_13_method_36_code
def yX12_readTurner : MethodName := ⟨RX12, "readTurner", "()V"⟩
abbrev cX12_readCall : ByteArray := prog_13_method_37_code
def yX12_readCall : MethodName := ⟨RX12, "readCall", "()V"⟩
abbrev cX12_readSlice : ByteArray := prog_13_method_38_code
def yX12_readSlice : MethodName := ⟨RX12, "readSlice", "()V"⟩
abbrev cX12_feed : ByteArray := prog_13_method_39_code
def yX12_feed : MethodName := ⟨RX12, "feed", "(IIIII)I"⟩
abbrev cX12_alp : ByteArray := prog_13_method_40_code
def yX12_alp : MethodName := ⟨RX12, "alp", "(I)I"⟩
abbrev cX12_fault : ByteArray := prog_13_method_41_code
def yX12_fault : MethodName := ⟨RX12, "fault", "()I"⟩
abbrev cX12_where : ByteArray := prog_13_method_42_code
def yX12_where : MethodName := ⟨RX12, "where", "()I"⟩
abbrev cX12_events : ByteArray := prog_13_method_43_code
def yX12_events : MethodName := ⟨RX12, "events", "()I"⟩
abbrev cX12_kindOf : ByteArray := prog_13_method_44_code
def yX12_kindOf : MethodName := ⟨RX12, "kindOf", "(I)I"⟩
abbrev cX12_hutOf : ByteArray := prog_13_method_45_code
def yX12_hutOf : MethodName := ⟨RX12, "hutOf", "(I)I"⟩
abbrev cX12_fromOf : ByteArray := prog_13_method_46_code
def yX12_fromOf : MethodName := ⟨RX12, "fromOf", "(I)I"⟩
abbrev cX12_toOf : ByteArray := prog_13_method_47_code
def yX12_toOf : MethodName := ⟨RX12, "toOf", "(I)I"⟩
abbrev cX12_laysLight : ByteArray := prog_13_method_48_code
def yX12_laysLight : MethodName := ⟨RX12, "laysLight", "(I)V"⟩
abbrev cX12_marksLight : ByteArray := prog_13_method_49_code
def yX12_marksLight : MethodName := ⟨RX12, "marksLight", "(II)V"⟩
abbrev cX12_changesIn : ByteArray := prog_13_method_50_code
def yX12_changesIn : MethodName := ⟨RX12, "changesIn", "(II)Z"⟩
abbrev cX12_seemsToIn : ByteArray := prog_13_method_51_code
def yX12_seemsToIn : MethodName := ⟨RX12, "seemsToIn", "(II)Z"⟩
abbrev cX12_isInAlmanac : ByteArray := prog_13_method_52_code
def yX12_isInAlmanac : MethodName := ⟨RX12, "isInAlmanac", "(I)Z"⟩
abbrev cX12_noticesIn : ByteArray := prog_13_method_53_code
def yX12_noticesIn : MethodName := ⟨RX12, "noticesIn", "(III)Z"⟩
abbrev cX12_isAwake : ByteArray := prog_13_method_54_code
def yX12_isAwake : MethodName := ⟨RX12, "isAwake", "(III)Z"⟩
abbrev cX12_goes : ByteArray := prog_13_method_55_code
def yX12_goes : MethodName := ⟨RX12, "goes", "(II)I"⟩
abbrev cX12_turns : ByteArray := prog_13_method_56_code
def yX12_turns : MethodName := ⟨RX12, "turns", "(II)V"⟩
abbrev cX12_notes : ByteArray := prog_13_method_57_code
def yX12_notes : MethodName := ⟨RX12, "notes", "(II)V"⟩
abbrev cX12_priceOf : ByteArray := prog_13_method_58_code
def yX12_priceOf : MethodName := ⟨RX12, "priceOf", "(I)I"⟩
abbrev cX12_everybody : ByteArray := prog_13_method_59_code
def yX12_everybody : MethodName := ⟨RX12, "everybody", "()I"⟩
abbrev cX12_tonight : ByteArray := prog_13_method_60_code
def yX12_tonight : MethodName := ⟨RX12, "tonight", "()I"⟩
abbrev cX12_isHut : ByteArray := prog_13_method_61_code
def yX12_isHut : MethodName := ⟨RX12, "isHut", "(I)Z"⟩
abbrev cX12_isTurner : ByteArray := prog_13_method_62_code
def yX12_isTurner : MethodName := ⟨RX12, "isTurner", "(I)Z"⟩
abbrev cX12_isCheese : ByteArray := prog_13_method_63_code
def yX12_isCheese : MethodName := ⟨RX12, "isCheese", "(I)Z"⟩
abbrev cX12_isMinute : ByteArray := prog_13_method_64_code
def yX12_isMinute : MethodName := ⟨RX12, "isMinute", "(I)Z"⟩
abbrev cX12_sky : ByteArray := prog_13_method_65_code
def yX12_sky : MethodName := ⟨RX12, "sky", "(I)I"⟩
abbrev cX12_light : ByteArray := prog_13_method_66_code
def yX12_light : MethodName := ⟨RX12, "light", "(IIZ)I"⟩
abbrev cX12_changes : ByteArray := prog_13_method_67_code
def yX12_changes : MethodName := ⟨RX12, "changes", "(IZ)I"⟩
abbrev cX12_change : ByteArray := prog_13_method_68_code
def yX12_change : MethodName := ⟨RX12, "change", "(II)I"⟩
abbrev cX12_dueIn : ByteArray := prog_13_method_69_code
def yX12_dueIn : MethodName := ⟨RX12, "dueIn", "(I)I"⟩
abbrev cX12_peak : ByteArray := prog_13_method_70_code
def yX12_peak : MethodName := ⟨RX12, "peak", "()I"⟩
abbrev cX12_due : ByteArray := prog_13_method_71_code
def yX12_due : MethodName := ⟨RX12, "due", "(I)I"⟩
abbrev cX12_awake : ByteArray := prog_13_method_72_code
def yX12_awake : MethodName := ⟨RX12, "awake", "(II)I"⟩
abbrev cX12_notices : ByteArray := prog_13_method_73_code
def yX12_notices : MethodName := ⟨RX12, "notices", "(III)I"⟩
abbrev cX12_work : ByteArray := prog_13_method_74_code
def yX12_work : MethodName := ⟨RX12, "work", "(II)I"⟩
abbrev cX12_worth : ByteArray := prog_13_method_75_code
def yX12_worth : MethodName := ⟨RX12, "worth", "(I)I"⟩
abbrev cX12_turned : ByteArray := prog_13_method_76_code
def yX12_turned : MethodName := ⟨RX12, "turned", "(II)I"⟩
abbrev cX12_up : ByteArray := prog_13_method_77_code
def yX12_up : MethodName := ⟨RX12, "up", "(II)I"⟩
abbrev cX12_cheese : ByteArray := prog_13_method_78_code
def yX12_cheese : MethodName := ⟨RX12, "cheese", "(II)I"⟩
abbrev cX12_veinAt : ByteArray := prog_13_method_79_code
def yX12_veinAt : MethodName := ⟨RX12, "veinAt", "(II)I"⟩
abbrev cX12_vein : ByteArray := prog_13_method_80_code
def yX12_vein : MethodName := ⟨RX12, "vein", "(II)I"⟩
abbrev cX12_cause : ByteArray := prog_13_method_81_code
def yX12_cause : MethodName := ⟨RX12, "cause", "(II)I"⟩
abbrev cX12_total : ByteArray := prog_13_method_82_code
def yX12_total : MethodName := ⟨RX12, "total", "()I"⟩
abbrev cX12_isEvent : ByteArray := prog_13_method_83_code
def yX12_isEvent : MethodName := ⟨RX12, "isEvent", "(I)Z"⟩
abbrev cX12_without : ByteArray := prog_13_method_84_code
def yX12_without : MethodName := ⟨RX12, "without", "(I)I"⟩
abbrev cX12_wakeNow : ByteArray := prog_13_method_85_code
def yX12_wakeNow : MethodName := ⟨RX12, "wakeNow", "()I"⟩
abbrev cX12_wake : ByteArray := prog_13_method_86_code
def yX12_wake : MethodName := ⟨RX12, "wake", "()I"⟩
abbrev cX12_wakeTotal : ByteArray := prog_13_method_87_code
def yX12_wakeTotal : MethodName := ⟨RX12, "wakeTotal", "()I"⟩
abbrev cX12_missesNone : ByteArray := prog_13_method_88_code
def yX12_missesNone : MethodName := ⟨RX12, "missesNone", "(I)Z"⟩
abbrev cX12_fewestNow : ByteArray := prog_13_method_89_code
def yX12_fewestNow : MethodName := ⟨RX12, "fewestNow", "()I"⟩
abbrev cX12_fewest : ByteArray := prog_13_method_90_code
def yX12_fewest : MethodName := ⟨RX12, "fewest", "()I"⟩
abbrev cX12_fewestBy : ByteArray := prog_13_method_91_code
def yX12_fewestBy : MethodName := ⟨RX12, "fewestBy", "()I"⟩
abbrev cX12_isSlice : ByteArray := prog_13_method_92_code
def yX12_isSlice : MethodName := ⟨RX12, "isSlice", "(I)Z"⟩
abbrev cX12_fitsNow : ByteArray := prog_13_method_93_code
def yX12_fitsNow : MethodName := ⟨RX12, "fitsNow", "(I)I"⟩
abbrev cX12_fits : ByteArray := prog_13_method_94_code
def yX12_fits : MethodName := ⟨RX12, "fits", "(I)I"⟩
abbrev cX12_by : ByteArray := prog_13_method_95_code
def yX12_by : MethodName := ⟨RX12, "by", "(I)I"⟩
abbrev cX12_comes : ByteArray := prog_13_method_96_code
def yX12_comes : MethodName := ⟨RX12, "comes", "(II)V"⟩
abbrev cX12_drawOf : ByteArray := prog_13_method_97_code
def yX12_drawOf : MethodName := ⟨RX12, "drawOf", "(I)I"⟩
abbrev cX12_draws : ByteArray := prog_13_method_98_code
def yX12_draws : MethodName := ⟨RX12, "draws", "()I"⟩
abbrev cX12_nights : ByteArray := prog_13_method_99_code
def yX12_nights : MethodName := ⟨RX12, "nights", "(III)I"⟩
abbrev cX12_keeps : ByteArray := prog_13_method_100_code
def yX12_keeps : MethodName := ⟨RX12, "keeps", "()V"⟩
abbrev cX12_call : ByteArray := prog_13_method_101_code
def yX12_call : MethodName := ⟨RX12, "call", "(IZ)Z"⟩
abbrev cX12_calls : ByteArray := prog_13_method_102_code
def yX12_calls : MethodName := ⟨RX12, "calls", "()I"⟩
abbrev cX12_cloud : ByteArray := prog_13_method_103_code
def yX12_cloud : MethodName := ⟨RX12, "cloud", "(II)Z"⟩
abbrev cX12_draw : ByteArray := prog_13_method_104_code
def yX12_draw : MethodName := ⟨RX12, "draw", "()I"⟩
abbrev cX12_lift : ByteArray := prog_13_method_105_code
def yX12_lift : MethodName := ⟨RX12, "lift", "()Z"⟩
abbrev cX12_seed : ByteArray := prog_13_method_106_code
def yX12_seed : MethodName := ⟨RX12, "seed", "(I)Z"⟩
abbrev cX12_undo : ByteArray := prog_13_method_107_code
def yX12_undo : MethodName := ⟨RX12, "undo", "()Z"⟩
abbrev cX12_mark : ByteArray := prog_13_method_108_code
def yX12_mark : MethodName := ⟨RX12, "mark", "()I"⟩
abbrev cX12_back : ByteArray := prog_13_method_109_code
def yX12_back : MethodName := ⟨RX12, "back", "(I)Z"⟩
abbrev cX12_event : ByteArray := prog_13_method_110_code
def yX12_event : MethodName := ⟨RX12, "event", "(II)I"⟩
abbrev cX12_led : ByteArray := prog_13_method_111_code
def yX12_led : MethodName := ⟨RX12, "led", "(I)I"⟩
abbrev cX12_size : ByteArray := prog_13_method_112_code
def yX12_size : MethodName := ⟨RX12, "size", "(I)I"⟩
abbrev cX12_trouble : ByteArray := prog_13_method_113_code
def yX12_trouble : MethodName := ⟨RX12, "trouble", "()I"⟩
def RJx145de : String := "java/io/Serializable"
def TJx145de : u_T := fun k => match k with
  | _ => ("", "", "", false)
def tyJx145de : Nat → FieldType := fun k => match k with
  | _ => .int
abbrev wsJx145de0 : List Cond := u_ws RJx145de TJx145de 0
theorem tyJx145de_ok : ∀ k, k < 0 → parseFieldDescriptor (TJx145de k).2.2.1 = some (tyJx145de k) := by decide +kernel
def RJx9f9b0 : String := "java/lang/CharSequence"
def TJx9f9b0 : u_T := fun k => match k with
  | _ => ("", "", "", false)
def tyJx9f9b0 : Nat → FieldType := fun k => match k with
  | _ => .int
abbrev wsJx9f9b00 : List Cond := u_ws RJx9f9b0 TJx9f9b0 0
theorem tyJx9f9b0_ok : ∀ k, k < 0 → parseFieldDescriptor (TJx9f9b0 k).2.2.1 = some (tyJx9f9b0 k) := by decide +kernel
def RJxb160c : String := "java/lang/Comparable"
def TJxb160c : u_T := fun k => match k with
  | _ => ("", "", "", false)
def tyJxb160c : Nat → FieldType := fun k => match k with
  | _ => .int
abbrev wsJxb160c0 : List Cond := u_ws RJxb160c TJxb160c 0
theorem tyJxb160c_ok : ∀ k, k < 0 → parseFieldDescriptor (TJxb160c k).2.2.1 = some (tyJxb160c k) := by decide +kernel
def RJ6 : String := "java/lang/Integer"
def TJ6 : u_T := fun k => match k with
  | _ => ("", "", "", false)
def tyJ6 : Nat → FieldType := fun k => match k with
  | _ => .int
abbrev wsJ60 : List Cond := u_ws RJ6 TJ6 0
theorem tyJ6_ok : ∀ k, k < 0 → parseFieldDescriptor (TJ6 k).2.2.1 = some (tyJ6 k) := by decide +kernel
abbrev cJ6_bitCount_0f7a4 : ByteArray := prog_19_method_49_code
def yJ6_bitCount_0f7a4 : MethodName := ⟨RJ6, "bitCount", "(I)I"⟩
def RJ9 : String := "java/lang/Math"
def TJ9 : u_T := fun k => match k with
  | _ => ("", "", "", false)
def tyJ9 : Nat → FieldType := fun k => match k with
  | _ => .int
abbrev wsJ90 : List Cond := u_ws RJ9 TJ9 0
theorem tyJ9_ok : ∀ k, k < 0 → parseFieldDescriptor (TJ9 k).2.2.1 = some (tyJ9 k) := by decide +kernel
abbrev cJ9_max_7cf53 : ByteArray := prog_20_method_65_code
def yJ9_max_7cf53 : MethodName := ⟨RJ9, "max", "(II)I"⟩
abbrev cJ9_min_7cf53 : ByteArray := prog_20_method_69_code
def yJ9_min_7cf53 : MethodName := ⟨RJ9, "min", "(II)I"⟩
def RJ0 : String := "java/lang/String"
def TJ0 : u_T := fun k => match k with
  | _ => ("", "", "", false)
def tyJ0 : Nat → FieldType := fun k => match k with
  | _ => .int
abbrev wsJ00 : List Cond := u_ws RJ0 TJ0 0
theorem tyJ0_ok : ∀ k, k < 0 → parseFieldDescriptor (TJ0 k).2.2.1 = some (tyJ0 k) := by decide +kernel
abbrev cJ0_length_8abf5 : ByteArray := prog_22_method_54_code
def yJ0_length_8abf5 : MethodName := ⟨RJ0, "length", "()I"⟩
abbrev cJ0_charAt_5068e : ByteArray := prog_22_method_56_code
def yJ0_charAt_5068e : MethodName := ⟨RJ0, "charAt", "(I)C"⟩
abbrev cJ0_coder_7d493 : ByteArray := prog_22_method_152_code
def yJ0_coder_7d493 : MethodName := ⟨RJ0, "coder", "()B"⟩
abbrev cJ0_isLatin1_aae02 : ByteArray := prog_22_method_154_code
def yJ0_isLatin1_aae02 : MethodName := ⟨RJ0, "isLatin1", "()Z"⟩
abbrev cJ0_checkIndex_df160 : ByteArray := prog_22_method_155_code
def yJ0_checkIndex_df160 : MethodName := ⟨RJ0, "checkIndex", "(II)V"⟩
def RJ1 : String := "java/lang/StringLatin1"
def TJ1 : u_T := fun k => match k with
  | _ => ("", "", "", false)
def tyJ1 : Nat → FieldType := fun k => match k with
  | _ => .int
abbrev wsJ10 : List Cond := u_ws RJ1 TJ1 0
theorem tyJ1_ok : ∀ k, k < 0 → parseFieldDescriptor (TJ1 k).2.2.1 = some (tyJ1 k) := by decide +kernel
abbrev cJ1_charAt_3b067 : ByteArray := prog_23_method_2_code
def yJ1_charAt_3b067 : MethodName := ⟨RJ1, "charAt", "([BI)C"⟩
def RJ2 : String := "java/lang/StringUTF16"
def TJ2 : u_T := fun k => match k with
  | _ => ("", "", "", false)
def tyJ2 : Nat → FieldType := fun k => match k with
  | _ => .int
abbrev wsJ20 : List Cond := u_ws RJ2 TJ2 0
theorem tyJ2_ok : ∀ k, k < 0 → parseFieldDescriptor (TJ2 k).2.2.1 = some (tyJ2 k) := by decide +kernel
abbrev cJ2_getChar_3b067 : ByteArray := prog_24_method_5_code
def yJ2_getChar_3b067 : MethodName := ⟨RJ2, "getChar", "([BI)C"⟩
abbrev cJ2_length_9d52b : ByteArray := prog_24_method_6_code
def yJ2_length_9d52b : MethodName := ⟨RJ2, "length", "([B)I"⟩
abbrev cJ2_charAt_3b067 : ByteArray := prog_24_method_83_code
def yJ2_charAt_3b067 : MethodName := ⟨RJ2, "charAt", "([BI)C"⟩
abbrev cJ2_checkIndex_2214a : ByteArray := prog_24_method_91_code
def yJ2_checkIndex_2214a : MethodName := ⟨RJ2, "checkIndex", "(I[B)V"⟩
def RJxfd54e : String := "java/lang/constant/Constable"
def TJxfd54e : u_T := fun k => match k with
  | _ => ("", "", "", false)
def tyJxfd54e : Nat → FieldType := fun k => match k with
  | _ => .int
abbrev wsJxfd54e0 : List Cond := u_ws RJxfd54e TJxfd54e 0
theorem tyJxfd54e_ok : ∀ k, k < 0 → parseFieldDescriptor (TJxfd54e k).2.2.1 = some (tyJxfd54e k) := by decide +kernel
def RJx3cf43 : String := "java/lang/constant/ConstantDesc"
def TJx3cf43 : u_T := fun k => match k with
  | _ => ("", "", "", false)
def tyJx3cf43 : Nat → FieldType := fun k => match k with
  | _ => .int
abbrev wsJx3cf430 : List Cond := u_ws RJx3cf43 TJx3cf43 0
theorem tyJx3cf43_ok : ∀ k, k < 0 → parseFieldDescriptor (TJx3cf43 k).2.2.1 = some (tyJx3cf43 k) := by decide +kernel
def RJ7 : String := "java/util/Arrays"
def TJ7 : u_T := fun k => match k with
  | _ => ("", "", "", false)
def tyJ7 : Nat → FieldType := fun k => match k with
  | _ => .int
abbrev wsJ70 : List Cond := u_ws RJ7 TJ7 0
theorem tyJ7_ok : ∀ k, k < 0 → parseFieldDescriptor (TJ7 k).2.2.1 = some (tyJ7 k) := by decide +kernel
abbrev cJ7_fill_53178 : ByteArray := prog_28_method_103_code
def yJ7_fill_53178 : MethodName := ⟨RJ7, "fill", "([II)V"⟩
def RJ3 : String := "jdk/internal/util/Preconditions"
def TJ3 : u_T := fun k => match k with
  | _ => ("", "", "", false)
def tyJ3 : Nat → FieldType := fun k => match k with
  | _ => .int
abbrev wsJ30 : List Cond := u_ws RJ3 TJ3 0
theorem tyJ3_ok : ∀ k, k < 0 → parseFieldDescriptor (TJ3 k).2.2.1 = some (tyJ3 k) := by decide +kernel
abbrev cJ3_checkIndex_8e157 : ByteArray := prog_30_method_11_code
def yJ3_checkIndex_8e157 : MethodName := ⟨RJ3, "checkIndex", "(IILjava/util/function/BiFunction;)I"⟩
def RL : String := "EclipseCheeseLaw"
abbrev cL_led : ByteArray := method_3_code
def yL_led : MethodName := ⟨RL, "led", "(LEclipseCheese;I[J)I"⟩
abbrev cL_law : ByteArray := code
def yL_law : MethodName := ⟨RL, "law", "([I)Z"⟩
abbrev vwCl : List vw_C := [(RX0, TX0, 15), (RX1, TX1, 4), (RX2, TX2, 4), (RX3, TX3, 5), (RX4, TX4, 2), (RX5, TX5, 12), (RX6, TX6, 4), (RX7, TX7, 17), (RX8, TX8, 12), (RX9, TX9, 6), (RX10, TX10, 18), (RX11, TX11, 33), (RX12, TX12, 36)]
end
section
/-! ===== the store: kinds 0..12 objects (as vwCl), 13 byte[], 14 int[], 15 long[], 16 boolean[], 17 Call[], 18 Event[], 19 Held[], 20 Minutes[], 21 Turner[]; 99 nothing there ===== -/
abbrev cz_G : Type := va_G × (Nat → ClassId) × (Nat → Nat) × (Nat → Nat)
abbrev cz_al (g : cz_G) : Nat → Nat := g.2.2.1
abbrev cz_sa (g : cz_G) : Nat → Nat := g.2.2.2
/-- a value of the store's machine as the machine has it: a place is an address, a float stands for a String constant (or the script) -/
def cz_rn (g : cz_G) : Value → Value
  | .ref k => .ref (cz_al g k)
  | .float u => .ref (cz_sa g u.toNat)
  | .int x => .int x
  | .long x => .long x
  | .null => .null
  | .double x => .double x
  | .retAddr x => .retAddr x
theorem cz_rn_cat (g : cz_G) (v : Value) : (cz_rn g v).category = v.category := by cases v <;> rfl
theorem cz_rn_sum (g : cz_G) (st : List Value) : ((st.map (cz_rn g)).map fun v => v.category).sum = (st.map fun v => v.category).sum := by
  rw [List.map_map]
  congr 1
  apply List.map_congr_left
  intro v _
  exact cz_rn_cat g v
def cz_on : Nat → String
  | 0 => RX0
  | 1 => RX1
  | 2 => RX2
  | 3 => RX3
  | 4 => RX4
  | 5 => RX5
  | 6 => RX6
  | 7 => RX7
  | 8 => RX8
  | 9 => RX9
  | 10 => RX10
  | 11 => RX11
  | 12 => RX12
  | 13 => RL
  | 14 => RJ6
  | 15 => RJ9
  | 16 => RJ7
  | _ => ""
def cz_TT : Nat → u_T
  | 0 => TX0
  | 1 => TX1
  | 2 => TX2
  | 3 => TX3
  | 4 => TX4
  | 5 => TX5
  | 6 => TX6
  | 7 => TX7
  | 8 => TX8
  | 9 => TX9
  | 10 => TX10
  | 11 => TX11
  | 12 => TX12
  | _ => TX0
def cz_tf : Nat → Nat → FieldType
  | 0 => tyX0
  | 1 => tyX1
  | 2 => tyX2
  | 3 => tyX3
  | 4 => tyX4
  | 5 => tyX5
  | 6 => tyX6
  | 7 => tyX7
  | 8 => tyX8
  | 9 => tyX9
  | 10 => tyX10
  | 11 => tyX11
  | 12 => tyX12
  | _ => tyX0
def cz_nf : Nat → Nat
  | 0 => 15
  | 1 => 4
  | 2 => 4
  | 3 => 5
  | 4 => 2
  | 5 => 12
  | 6 => 4
  | 7 => 17
  | 8 => 12
  | 9 => 6
  | 10 => 18
  | 11 => 33
  | 12 => 36
  | _ => 0
/-- the kind of each field: 0 int, 1 reference, 2 long, 3 boolean -/
def cz_fk : Nat → List Nat
  | 0 => [0, 0, 1, 0, 1, 0, 1, 0, 1, 0, 1, 0, 1, 0, 1]
  | 1 => [0, 0, 0, 0]
  | 2 => [0, 0, 0, 0]
  | 3 => [0, 0, 0, 1, 1]
  | 4 => [0, 1]
  | 5 => [1, 1, 0, 1, 1, 1, 1, 1, 1, 1, 1, 1]
  | 6 => [0, 1, 0, 1]
  | 7 => [1, 0, 0, 0, 0, 2, 0, 0, 0, 0, 1, 3, 3, 1, 1, 0, 0]
  | 8 => [0, 0, 1, 1, 1, 1, 1, 1, 1, 1, 0, 1]
  | 9 => [0, 0, 0, 0, 0, 0]
  | 10 => [1, 0, 1, 1, 1, 3, 1, 1, 1, 3, 1, 3, 1, 1, 1, 0, 0, 0]
  | 11 => [0, 0, 0, 0, 0, 0, 0, 0, 0, 3, 1, 1, 1, 1, 1, 1, 1, 1, 1, 1, 1, 1, 1, 1, 1, 1, 1, 1, 1, 1, 1, 1, 1]
  | 12 => [0, 0, 0, 1, 1, 1, 0, 0, 0, 0, 0, 0, 0, 0, 0, 2, 1, 1, 1, 0, 0, 1, 1, 1, 1, 1, 1, 1, 1, 1, 1, 1, 1, 1, 0, 1]
  | _ => []
def cz_ty : Nat → FieldType
  | 13 => .byte
  | 14 => .int
  | 15 => .long
  | 16 => .boolean
  | 17 => .object RX1
  | 18 => .object RX2
  | 19 => .object RX3
  | 20 => .object RX4
  | _ => .object RX9
/-- the class of what an array of references holds -/
def cz_el : Nat → Nat
  | 17 => 1
  | 18 => 2
  | 19 => 3
  | 20 => 4
  | _ => 9
def cz_tys (g : cz_G) : List (ClassId × FieldType) := (List.range 9).map (fun i => (g.2.1 (13 + i), cz_ty (13 + i)))
abbrev cz_I : Type := Nat → Nat → Int32
abbrev cz_R : Type := Nat → Nat → Option Nat
abbrev cz_L : Type := Nat → Nat → Int64
def cz_uI (I : cz_I) (k j : Nat) (x : Int32) : cz_I := fun a => if a = k then upd (I k) j x else I a
def cz_uR (R : cz_R) (k j : Nat) (x : Option Nat) : cz_R := fun a => if a = k then va_up (R k) j x else R a
def cz_uL (L : cz_L) (k j : Nat) (x : Int64) : cz_L := fun a => if a = k then vp_updL (L k) j x else L a
def cz_fv (g : cz_G) (I : cz_I) (R : cz_R) (L : cz_L) (k j kd : Nat) : Value := if kd = 1 then va_rf ((R k j).map (cz_al g)) else if kd = 2 then .long (L k j) else .int (I k j)
def cz_fs (g : cz_G) (I : cz_I) (R : cz_R) (L : cz_L) (k ci : Nat) : List Value := (cz_fk ci).mapIdx (fun j kd => cz_fv g I R L k j kd)
def cz_ac (g : cz_G) (I : cz_I) (R : cz_R) (L : cz_L) (k kd : Nat) : (Nat → Int32) ⊕ (Nat → Int64) ⊕ (Nat → UInt32) ⊕ (Nat → UInt64) ⊕ (Nat → Option Nat) :=
  if kd = 15 then .inr (.inl (L k)) else if kd < 17 then .inl (I k) else .inr (.inr (.inr (.inr (fun j => (R k j).map (cz_al g)))))
def cz_ce (g : cz_G) (K N : Nat → Nat) (I : cz_I) (R : cz_R) (L : cz_L) (k : Nat) : va_E := if K k < 13 then .inr (K k, cz_fs g I R L k (K k)) else .inl (g.2.1 (K k), N k, cz_ac g I R L k (K k))
def cz_ws (g : cz_G) (c : Nat) (K N : Nat → Nat) (I : cz_I) (R : cz_R) (L : cz_L) : va_W := (List.range c).map (fun k => (cz_al g k, cz_ce g K N I R L k))
/-- the store's picture of the heap; the places that come get the addresses that come -/
def cz_At (g : cz_G) (A : Nat → Prop) (c : Nat) (K N : Nat → Nat) (I : cz_I) (R : cz_R) (L : cz_L) (H : Heap) : Prop :=
  va_P g.1 vwCl (cz_ws g c K N I R L) H ∧ va_D A (cz_ws g c K N I R L) ∧ (∀ i : Nat, cz_al g (c + i) = H.size + i) ∧ ∀ k : Nat, c ≤ k → K k = 99
theorem cz_lt {c : Nat} {K : Nat → Nat} {k kd : Nat} (h99 : ∀ k : Nat, c ≤ k → K k = 99) (hk : K k = kd) (hn : kd ≠ 99) : k < c := by
  rcases Nat.lt_or_ge k c with h | h
  · exact h
  · exact absurd (hk.symm.trans (h99 k h)) hn
theorem cz_get {g : cz_G} {c : Nat} {K N : Nat → Nat} {I : cz_I} {R : cz_R} {L : cz_L} {k : Nat} (hk : k < c) : (cz_ws g c K N I R L)[k]? = some (cz_al g k, cz_ce g K N I R L k) := by
  rw [cz_ws, List.getElem?_map, List.getElem?_range hk]; rfl
theorem cz_len {g : cz_G} {c : Nat} {K N : Nat → Nat} {I : cz_I} {R : cz_R} {L : cz_L} : (cz_ws g c K N I R L).length = c := by simp [cz_ws]
theorem cz_getO {g : cz_G} {c : Nat} {K N : Nat → Nat} {I : cz_I} {R : cz_R} {L : cz_L} {k ci : Nat} (h99 : ∀ k : Nat, c ≤ k → K k = 99) (hK : K k = ci) (hc : ci < 13) : (cz_ws g c K N I R L)[k]? = some (cz_al g k, .inr (ci, cz_fs g I R L k ci)) := by
  rw [cz_get (cz_lt h99 hK (by omega)), cz_ce, hK, if_pos hc]
theorem cz_getA {g : cz_G} {c : Nat} {K N : Nat → Nat} {I : cz_I} {R : cz_R} {L : cz_L} {k kd : Nat} (h99 : ∀ k : Nat, c ≤ k → K k = 99) (hK : K k = kd) (h1 : 13 ≤ kd) (h2 : kd < 22) : (cz_ws g c K N I R L)[k]? = some (cz_al g k, .inl (g.2.1 kd, N k, cz_ac g I R L k kd)) := by
  rw [cz_get (cz_lt h99 hK (by omega)), cz_ce, hK, if_neg (by omega)]
theorem cz_tyat (g : cz_G) {kd : Nat} (h1 : 13 ≤ kd) (h2 : kd < 22) : (cz_tys g)[kd - 13]? = some (g.2.1 kd, cz_ty kd) := by
  rw [cz_tys, List.getElem?_map, List.getElem?_range (by omega), Option.map_some, show 13 + (kd - 13) = kd by omega]
/-- one cell changes -/
theorem cz_set {g : cz_G} {c : Nat} {K N : Nat → Nat} {I I' : cz_I} {R R' : cz_R} {L L' : cz_L} {k : Nat} {e : va_E} (hk : k < c) (he : cz_ce g K N I' R' L' k = e) (ho : ∀ j : Nat, j ≠ k → cz_ce g K N I' R' L' j = cz_ce g K N I R L j) : (cz_ws g c K N I R L).set k (cz_al g k, e) = cz_ws g c K N I' R' L' := by
  apply List.ext_getElem?
  intro i
  rw [List.getElem?_set, cz_len]
  by_cases hi : k = i
  · subst hi
    rw [if_pos rfl, if_pos hk, cz_get hk, he]
  · rw [if_neg hi]
    by_cases hc : i < c
    · rw [cz_get hc, cz_get hc, ho i (Ne.symm hi)]
    · rw [List.getElem?_eq_none (by rw [cz_len]; omega), List.getElem?_eq_none (by rw [cz_len]; omega)]
theorem cz_uIn {I : cz_I} {k j a : Nat} {x : Int32} (h : a ≠ k) : cz_uI I k j x a = I a := by simp [cz_uI, h]
theorem cz_uRn {R : cz_R} {k j a : Nat} {x : Option Nat} (h : a ≠ k) : cz_uR R k j x a = R a := by simp [cz_uR, h]
theorem cz_uLn {L : cz_L} {k j a : Nat} {x : Int64} (h : a ≠ k) : cz_uL L k j x a = L a := by simp [cz_uL, h]
theorem cz_uIs {I : cz_I} {k j : Nat} {x : Int32} : cz_uI I k j x k = upd (I k) j x := by simp [cz_uI]
theorem cz_uRs {R : cz_R} {k j : Nat} {x : Option Nat} : cz_uR R k j x k = va_up (R k) j x := by simp [cz_uR]
theorem cz_uLs {L : cz_L} {k j : Nat} {x : Int64} : cz_uL L k j x k = vp_updL (L k) j x := by simp [cz_uL]
/-- other cells stay -/
theorem cz_ceI {g : cz_G} {K N : Nat → Nat} {I I' : cz_I} {R R' : cz_R} {L L' : cz_L} {k : Nat} (h1 : I' k = I k) (h2 : R' k = R k) (h3 : L' k = L k) : cz_ce g K N I' R' L' k = cz_ce g K N I R L k := by
  simp only [cz_ce, cz_fs, cz_fv, cz_ac, h1, h2, h3]
theorem cz_fsI {g : cz_G} {I : cz_I} {R : cz_R} {L : cz_L} {k ci j kd : Nat} {x : Int32} (hk : (cz_fk ci)[j]? = some kd) (h1 : kd ≠ 1) (h2 : kd ≠ 2) : (cz_fs g I R L k ci).set j (.int x) = cz_fs g (cz_uI I k j x) R L k ci := by
  apply List.ext_getElem?
  intro i
  have hj : j < (cz_fk ci).length := (List.getElem?_eq_some_iff.mp hk).1
  rw [List.getElem?_set]
  simp only [cz_fs, List.length_mapIdx, List.getElem?_mapIdx]
  by_cases hi : j = i
  · subst hi
    rw [if_pos rfl, if_pos hj, hk, Option.map_some, cz_fv, if_neg h1, if_neg h2, cz_uIs]
    simp [upd]
  · rw [if_neg hi]
    congr 1
    funext q
    simp only [cz_fv, cz_uIs, upd, if_neg (Ne.symm hi)]
theorem cz_fsR {g : cz_G} {I : cz_I} {R : cz_R} {L : cz_L} {k ci j : Nat} {x : Option Nat} (hk : (cz_fk ci)[j]? = some 1) : (cz_fs g I R L k ci).set j (va_rf (x.map (cz_al g))) = cz_fs g I (cz_uR R k j x) L k ci := by
  apply List.ext_getElem?
  intro i
  have hj : j < (cz_fk ci).length := (List.getElem?_eq_some_iff.mp hk).1
  rw [List.getElem?_set]
  simp only [cz_fs, List.length_mapIdx, List.getElem?_mapIdx]
  by_cases hi : j = i
  · subst hi
    rw [if_pos rfl, if_pos hj, hk, Option.map_some, cz_fv, if_pos rfl, cz_uRs]
    simp [va_up]
  · rw [if_neg hi]
    congr 1
    funext q
    simp only [cz_fv, cz_uRs, va_up, if_neg (Ne.symm hi)]
theorem cz_fsL {g : cz_G} {I : cz_I} {R : cz_R} {L : cz_L} {k ci j : Nat} {x : Int64} (hk : (cz_fk ci)[j]? = some 2) : (cz_fs g I R L k ci).set j (.long x) = cz_fs g I R (cz_uL L k j x) k ci := by
  apply List.ext_getElem?
  intro i
  have hj : j < (cz_fk ci).length := (List.getElem?_eq_some_iff.mp hk).1
  rw [List.getElem?_set]
  simp only [cz_fs, List.length_mapIdx, List.getElem?_mapIdx]
  by_cases hi : j = i
  · subst hi
    rw [if_pos rfl, if_pos hj, hk, Option.map_some, cz_fv, if_neg (by decide), if_pos rfl, cz_uLs]
    simp [vp_updL]
  · rw [if_neg hi]
    congr 1
    funext q
    simp only [cz_fv, cz_uLs, vp_updL, if_neg (Ne.symm hi)]
/-- a new cell -/
theorem cz_push {g : cz_G} {c : Nat} {K N K' N' : Nat → Nat} {I I' : cz_I} {R R' : cz_R} {L L' : cz_L} {e : va_E} (he : cz_ce g K' N' I' R' L' c = e) (ho : ∀ j : Nat, j < c → cz_ce g K' N' I' R' L' j = cz_ce g K N I R L j) : cz_ws g c K N I R L ++ [(cz_al g c, e)] = cz_ws g (c + 1) K' N' I' R' L' := by
  rw [cz_ws, cz_ws, List.range_succ, List.map_append, List.map_cons, List.map_nil, he]
  congr 1
  apply List.map_congr_left
  intro j hj
  rw [ho j (List.mem_range.mp hj)]
/-! ===== words, context, judgement ===== -/
def cz_T : List Cond := lw_tbl.filter goodWord
/-- a method: its class's number, bytes, locals, room, name, result, the places of its longs -/
abbrev cz_M : Type := Nat × ByteArray × Nat × Room × MethodName × Option FieldType × List Nat
abbrev cz_cc (M : cz_M) : ByteArray := M.2.1
abbrev cz_nL (M : cz_M) : Nat := M.2.2.1
abbrev cz_rm (M : cz_M) : Room := M.2.2.2.1
abbrev cz_nm (M : cz_M) : MethodName := M.2.2.2.2.1
abbrev cz_rt (M : cz_M) : Option FieldType := M.2.2.2.2.2.1
abbrev cz_lg (M : cz_M) : List Nat := M.2.2.2.2.2.2
abbrev cz_wd (M : cz_M) : List Cond := .code (cz_nm M) (cz_cc M) (cz_nL M) (cz_rt M) :: cz_T
def cz_NF : List (String × Nat × String × String × String × String) := [("EclipseCheeseModel", 192, "EclipseCheeseModel$Alp", "minutes", "I", "EclipseCheeseModel"), ("EclipseCheeseModel", 263, "EclipseCheeseModel$Alp", "huts", "I", "EclipseCheeseModel"), ("EclipseCheeseModel", 265, "EclipseCheeseModel$Alp", "events", "I", "EclipseCheeseModel"), ("EclipseCheeseModel", 224, "EclipseCheeseModel$Alp", "cheeses", "I", "EclipseCheeseModel"), ("EclipseCheeseModel", 315, "EclipseCheeseModel$Alp", "turners", "I", "EclipseCheeseModel"), ("EclipseCheeseModel", 349, "EclipseCheeseModel$Alp", "calls", "I", "EclipseCheeseModel"), ("EclipseCheeseModel", 370, "EclipseCheeseModel$Alp", "slices", "I", "EclipseCheeseModel"), ("EclipseCheeseModel", 209, "EclipseCheeseModel$Alp", "names", "I", "EclipseCheeseModel"), ("EclipseCheeseModel", 312, "EclipseCheeseModel$Alp", "almanacMany", "I", "EclipseCheeseModel"), ("EclipseCheeseModel", 302, "EclipseCheeseModel$Alp", "hasAlmanac", "Z", "EclipseCheeseModel"), ("EclipseCheeseModel", 260, "EclipseCheeseModel$Alp", "price", "[I", "EclipseCheeseModel"), ("EclipseCheeseModel", 274, "EclipseCheeseModel$Alp", "kind", "[I", "EclipseCheeseModel"), ("EclipseCheeseModel", 277, "EclipseCheeseModel$Alp", "hut", "[I", "EclipseCheeseModel"), ("EclipseCheeseModel", 280, "EclipseCheeseModel$Alp", "from", "[I", "EclipseCheeseModel"), ("EclipseCheeseModel", 283, "EclipseCheeseModel$Alp", "to", "[I", "EclipseCheeseModel"), ("EclipseCheeseModel", 296, "EclipseCheeseModel$Alp", "cheeseHut", "[I", "EclipseCheeseModel"), ("EclipseCheeseModel", 306, "EclipseCheeseModel$Alp", "almanac", "[I", "EclipseCheeseModel"), ("EclipseCheeseModel", 375, "EclipseCheeseModel$Alp", "sliceMany", "[I", "EclipseCheeseModel"), ("EclipseCheeseModel", 373, "EclipseCheeseModel$Alp", "slice", "[I", "EclipseCheeseModel"), ("EclipseCheeseModel", 299, "EclipseCheeseModel$Alp", "isDown", "[Z", "EclipseCheeseModel"), ("EclipseCheeseModel", 333, "EclipseCheeseModel$Alp", "turnerKind", "[I", "EclipseCheeseModel"), ("EclipseCheeseModel", 336, "EclipseCheeseModel$Alp", "turnerFrom", "[I", "EclipseCheeseModel"), ("EclipseCheeseModel", 339, "EclipseCheeseModel$Alp", "turnerTo", "[I", "EclipseCheeseModel"), ("EclipseCheeseModel", 342, "EclipseCheeseModel$Alp", "hands", "[I", "EclipseCheeseModel"), ("EclipseCheeseModel", 344, "EclipseCheeseModel$Alp", "takes", "[I", "EclipseCheeseModel"), ("EclipseCheeseModel", 346, "EclipseCheeseModel$Alp", "turnerHuts", "[I", "EclipseCheeseModel"), ("EclipseCheeseModel", 358, "EclipseCheeseModel$Alp", "callTurner", "[I", "EclipseCheeseModel"), ("EclipseCheeseModel", 361, "EclipseCheeseModel$Alp", "callAt", "[I", "EclipseCheeseModel"), ("EclipseCheeseModel", 364, "EclipseCheeseModel$Alp", "callFor", "[I", "EclipseCheeseModel"), ("EclipseCheeseModel", 367, "EclipseCheeseModel$Alp", "callCosts", "[I", "EclipseCheeseModel"), ("EclipseCheeseModel", 205, "EclipseCheeseModel$Alp", "name", "[J", "EclipseCheeseModel"), ("EclipseCheeseModel", 212, "EclipseCheeseModel$Alp", "nameSort", "[I", "EclipseCheeseModel"), ("EclipseCheeseModel", 215, "EclipseCheeseModel$Alp", "nameNumber", "[I", "EclipseCheeseModel")]
def cz_NM : List (String × Nat × MethodName × String) := [("EclipseCheese$Alp", 26, ⟨"EclipseCheese$Minutes", "<init>", "()V"⟩, "EclipseCheese"), ("EclipseCheese$Alp", 47, ⟨"EclipseCheese$Event", "<init>", "()V"⟩, "EclipseCheese"), ("EclipseCheese$Alp", 48, ⟨"EclipseCheese$Turner", "<init>", "()V"⟩, "EclipseCheese"), ("EclipseCheese$Alp", 49, ⟨"EclipseCheese$Call", "<init>", "()V"⟩, "EclipseCheese"), ("EclipseCheese", 34, ⟨"EclipseCheese$Held", "<init>", "()V"⟩, "EclipseCheese"), ("EclipseCheese$Past", 20, ⟨"EclipseCheese$Held", "<init>", "()V"⟩, "EclipseCheese"), ("EclipseCheese", 48, ⟨"EclipseCheese$Sky", "<init>", "()V"⟩, "EclipseCheese"), ("EclipseCheese$Reader", 275, ⟨"EclipseCheese", "bit", "(II)I"⟩, "EclipseCheese"), ("EclipseCheese$Alp", 78, ⟨"EclipseCheese", "bit", "(II)I"⟩, "EclipseCheese"), ("EclipseCheese$Night", 84, ⟨"EclipseCheese", "bit", "(II)I"⟩, "EclipseCheese"), ("EclipseCheeseModel", 381, ⟨"EclipseCheeseModel$Alp", "<init>", "()V"⟩, "EclipseCheeseModel")]
def cz_AO : List String := ["EclipseCheese$Event", "EclipseCheese$Turner", "EclipseCheese$Call", "EclipseCheese$Minutes", "EclipseCheese$Held"]
/-- String constants: class, entry, text, number of the text -/
def cz_SR : List (String × Nat × String × Nat) := [("EclipseCheese$Reader", 131, "cloud", 7), ("EclipseCheese$Reader", 133, "eclipse", 11), ("EclipseCheese$Reader", 135, "lamp", 17), ("EclipseCheese$Reader", 137, "shutter", 22), ("EclipseCheese$Reader", 139, "bolt", 4), ("EclipseCheese$Reader", 141, "cheese", 6), ("EclipseCheese$Reader", 143, "almanac", 0), ("EclipseCheese$Reader", 145, "turner", 26), ("EclipseCheese$Reader", 147, "call", 5), ("EclipseCheese$Reader", 149, "slice", 23), ("EclipseCheese$Reader", 151, "alp", 1), ("EclipseCheese$Reader", 203, "minutes", 18), ("EclipseCheese$Reader", 204, "huts", 16), ("EclipseCheese$Reader", 205, "prices", 20), ("EclipseCheese$Reader", 238, "down", 10), ("EclipseCheese$Reader", 234, "hut", 15), ("EclipseCheese$Reader", 268, "sees", 21), ("EclipseCheese$Reader", 270, "blind", 3), ("EclipseCheese$Reader", 272, "deaf", 9), ("EclipseCheese$Reader", 253, "from", 13), ("EclipseCheese$Reader", 124, "to", 25), ("EclipseCheese$Reader", 256, "hands", 14), ("EclipseCheese$Reader", 260, "takes", 24), ("EclipseCheese$Reader", 293, "at", 2), ("EclipseCheese$Reader", 297, "for", 12), ("EclipseCheese$Reader", 302, "costs", 8), ("EclipseCheese", 327, "no such cheese missed anything", 19), ("EclipseCheeseModel", 164, "alp", 1), ("EclipseCheeseModel", 248, "minutes", 18), ("EclipseCheeseModel", 253, "huts", 16), ("EclipseCheeseModel", 255, "prices", 20), ("EclipseCheeseModel", 166, "cloud", 7), ("EclipseCheeseModel", 272, "to", 25), ("EclipseCheeseModel", 168, "eclipse", 11), ("EclipseCheeseModel", 170, "lamp", 17), ("EclipseCheeseModel", 172, "shutter", 22), ("EclipseCheeseModel", 174, "bolt", 4), ("EclipseCheeseModel", 176, "cheese", 6), ("EclipseCheeseModel", 178, "almanac", 0), ("EclipseCheeseModel", 180, "turner", 26), ("EclipseCheeseModel", 182, "call", 5), ("EclipseCheeseModel", 184, "slice", 23), ("EclipseCheeseModel", 186, "down", 10), ("EclipseCheeseModel", 289, "hut", 15), ("EclipseCheeseModel", 318, "sees", 21), ("EclipseCheeseModel", 320, "blind", 3), ("EclipseCheeseModel", 322, "deaf", 9), ("EclipseCheeseModel", 324, "from", 13), ("EclipseCheeseModel", 325, "hands", 14), ("EclipseCheeseModel", 327, "takes", 24), ("EclipseCheeseModel", 352, "at", 2), ("EclipseCheeseModel", 354, "for", 12), ("EclipseCheeseModel", 356, "costs", 8)]
def cz_K (g : cz_G) (U : State) : Prop := va_K g.1 vwCl (cz_tys g) U ∧ (∀ q ∈ cz_NF, va_Nw (.fieldLinkNest q.1 q.2.1 q.2.2.1 q.2.2.2.1 q.2.2.2.2.1 q.2.2.2.2.2) U) ∧ (∀ q ∈ cz_NM, va_Nw (.methodLinkNest q.1 q.2.1 q.2.2.1 q.2.2.2) U) ∧ (∀ C ∈ cz_AO, va_AO C U) ∧ ∀ q ∈ cz_SR, vk_R q.1 q.2.1 q.2.2.1 (cz_sa g q.2.2.2) U
theorem cz_K.warm {g : cz_G} {s U : State} (hW : s.WarmedH U.vm) (h : cz_K g s) : cz_K g U :=
  ⟨va_K.moved hW.alike h.1, fun q hq => va_Nw.warmF hW (h.2.1 q hq), fun q hq => va_Nw.warmM hW (h.2.2.1 q hq), fun C hC => va_AO.moved hW.alike (h.2.2.2.1 C hC), fun q hq => vk_R.warm hW (h.2.2.2.2 q hq)⟩
theorem cz_K.same {g : cz_G} {s U : State} (hv : U.vm = s.vm) (h : cz_K g s) : cz_K g U :=
  ⟨va_K.moved (by rw [hv]; exact Vm.Alike.refl s.vm) h.1, fun q hq => va_tabs rfl hv.symm (h.2.1 q hq), fun q hq => va_tabs rfl hv.symm (h.2.2.1 q hq), fun C hC => va_AO.moved (by rw [hv]; exact Vm.Alike.refl s.vm) (h.2.2.2.1 C hC), fun q hq => vk_R.same hv (h.2.2.2.2 q hq)⟩
abbrev cz_X : Type := Program × Launch × Env × State × MethodId × Array Value × List Frame × Method × Code × (Nat → Prop) × (State → Prop) × cz_G
/-- what holds all through a body -/
def cz_ok : cz_X → cz_M → Prop
  | (p, _, _, s, m, args, _, meth, c, A, _, g), M => p.tables.exec = Jvm.exec ∧ c.code = cz_cc M ∧ c.maxLocals = cz_nL M ∧ s.vm.findClass (cz_on M.1) = some m.cls ∧ (∀ w ∈ cz_T, w.before args s = true) ∧ meth.sig.returnType = cz_rt M ∧ meth.locks = false ∧ ((cz_nm M).name = "<init>" → meth.name = "<init>") ∧ cz_K g s ∧ ∀ q : Nat, s.heap.size ≤ q → A q
/-- the locals: unknown where none -/
def cz_lc (g : cz_G) (M : cz_M) (arr : Array Slot) (ls : Nat → Option Value) : Prop := arr.size = cz_nL M ∧ lv_wf arr ∧ (∀ (i : Nat) (v : Value), ls i = some v → arr[i]? = some (.val (cz_rn g v))) ∧ ∀ (i : Nat) (v : Value), ls i = some v → v.category = 2 → i ∈ cz_lg M
/-- THE JUDGEMENT: from here the machine comes to a state with the context's end -/
def Tr : cz_X → cz_M → Nat → (Nat → Option Value) → List Value → Nat → (Nat → Nat) → (Nat → Nat) → cz_I → cz_R → cz_L → Nat → Nat → Prop
  | (p, l, e, s, m, args, below, meth, c, A, Z, g), M, pc, ls, st, cn, K, N, I, R, L, n, w =>
    cz_ok (p, l, e, s, m, args, below, meth, c, A, Z, g) M → ∀ (H : Heap) (locs : List Loc) (arr : Array Slot), cz_At g A cn K N I R L H → va_S A s.heap H locs → cz_lc g M arr ls →
      W p l e (cz_rm M) s m args below meth c H locs n w Z (F0 m pc arr (st.map (cz_rn g)))
section CzRules
variable {X : cz_X} {M : cz_M} {pc : Nat} {ls : Nat → Option Value} {st : List Value} {cn : Nat} {K N : Nat → Nat} {I : cz_I} {R : cz_R} {L : cz_L} {n w : Nat}
theorem tr_iadd {x y : Int32} (hd : decode (cz_cc M) pc = .ok (.iadd, 1)) (k : Tr X M (pc + 1) ls (.int (x + y) :: st) cn K N I R L n w) : Tr X M pc ls (.int y :: .int x :: st) cn K N I R L n w := by
  obtain ⟨p, l, e, s, m, args, below, meth, c, A, Z, g⟩ := X
  intro hC H locs arr hR hS hl
  exact lv_iadd hC.1 hC.2.1 hd (k hC H locs arr hR hS hl)
theorem tr_isub {x y : Int32} (hd : decode (cz_cc M) pc = .ok (.isub, 1)) (k : Tr X M (pc + 1) ls (.int (x - y) :: st) cn K N I R L n w) : Tr X M pc ls (.int y :: .int x :: st) cn K N I R L n w := by
  obtain ⟨p, l, e, s, m, args, below, meth, c, A, Z, g⟩ := X
  intro hC H locs arr hR hS hl
  exact lv_isub hC.1 hC.2.1 hd (k hC H locs arr hR hS hl)
theorem tr_imul {x y : Int32} (hd : decode (cz_cc M) pc = .ok (.imul, 1)) (k : Tr X M (pc + 1) ls (.int (x * y) :: st) cn K N I R L n w) : Tr X M pc ls (.int y :: .int x :: st) cn K N I R L n w := by
  obtain ⟨p, l, e, s, m, args, below, meth, c, A, Z, g⟩ := X
  intro hC H locs arr hR hS hl
  exact lv_imul hC.1 hC.2.1 hd (k hC H locs arr hR hS hl)
theorem tr_iand {x y : Int32} (hd : decode (cz_cc M) pc = .ok (.iand, 1)) (k : Tr X M (pc + 1) ls (.int (x &&& y) :: st) cn K N I R L n w) : Tr X M pc ls (.int y :: .int x :: st) cn K N I R L n w := by
  obtain ⟨p, l, e, s, m, args, below, meth, c, A, Z, g⟩ := X
  intro hC H locs arr hR hS hl
  exact lv_iand hC.1 hC.2.1 hd (k hC H locs arr hR hS hl)
theorem tr_ior {x y : Int32} (hd : decode (cz_cc M) pc = .ok (.ior, 1)) (k : Tr X M (pc + 1) ls (.int (x ||| y) :: st) cn K N I R L n w) : Tr X M pc ls (.int y :: .int x :: st) cn K N I R L n w := by
  obtain ⟨p, l, e, s, m, args, below, meth, c, A, Z, g⟩ := X
  intro hC H locs arr hR hS hl
  exact lv_ior hC.1 hC.2.1 hd (k hC H locs arr hR hS hl)
theorem tr_ixor {x y : Int32} (hd : decode (cz_cc M) pc = .ok (.ixor, 1)) (k : Tr X M (pc + 1) ls (.int (x ^^^ y) :: st) cn K N I R L n w) : Tr X M pc ls (.int y :: .int x :: st) cn K N I R L n w := by
  obtain ⟨p, l, e, s, m, args, below, meth, c, A, Z, g⟩ := X
  intro hC H locs arr hR hS hl
  exact lv_ixor hC.1 hC.2.1 hd (k hC H locs arr hR hS hl)
theorem tr_ishl {x y : Int32} (hd : decode (cz_cc M) pc = .ok (.ishl, 1)) (k : Tr X M (pc + 1) ls (.int (x <<< (y &&& 31)) :: st) cn K N I R L n w) : Tr X M pc ls (.int y :: .int x :: st) cn K N I R L n w := by
  obtain ⟨p, l, e, s, m, args, below, meth, c, A, Z, g⟩ := X
  intro hC H locs arr hR hS hl
  exact lv_ishl hC.1 hC.2.1 hd (k hC H locs arr hR hS hl)
theorem tr_ishr {x y : Int32} (hd : decode (cz_cc M) pc = .ok (.ishr, 1)) (k : Tr X M (pc + 1) ls (.int (x >>> (y &&& 31)) :: st) cn K N I R L n w) : Tr X M pc ls (.int y :: .int x :: st) cn K N I R L n w := by
  obtain ⟨p, l, e, s, m, args, below, meth, c, A, Z, g⟩ := X
  intro hC H locs arr hR hS hl
  exact lv_ishr hC.1 hC.2.1 hd (k hC H locs arr hR hS hl)
theorem tr_iushr {x y : Int32} (hd : decode (cz_cc M) pc = .ok (.iushr, 1)) (k : Tr X M (pc + 1) ls (.int ((x.toUInt32 >>> (y.toUInt32 &&& Int32.toUInt32 31)).toInt32) :: st) cn K N I R L n w) : Tr X M pc ls (.int y :: .int x :: st) cn K N I R L n w := by
  obtain ⟨p, l, e, s, m, args, below, meth, c, A, Z, g⟩ := X
  intro hC H locs arr hR hS hl
  exact lv_iushr hC.1 hC.2.1 hd rfl (k hC H locs arr hR hS hl)
theorem tr_irem {x y : Int32} (hd : decode (cz_cc M) pc = .ok (.irem, 1)) (h0 : ¬ y = 0) (k : Tr X M (pc + 1) ls (.int (x - x / y * y) :: st) cn K N I R L n w) : Tr X M pc ls (.int y :: .int x :: st) cn K N I R L n w := by
  obtain ⟨p, l, e, s, m, args, below, meth, c, A, Z, g⟩ := X
  intro hC H locs arr hR hS hl
  exact lv_irem hC.1 hC.2.1 hd h0 (k hC H locs arr hR hS hl)
theorem tr_ineg {x : Int32} (hd : decode (cz_cc M) pc = .ok (.ineg, 1)) (k : Tr X M (pc + 1) ls (.int (-x) :: st) cn K N I R L n w) : Tr X M pc ls (.int x :: st) cn K N I R L n w := by
  obtain ⟨p, l, e, s, m, args, below, meth, c, A, Z, g⟩ := X
  intro hC H locs arr hR hS hl
  exact lv_ineg hC.1 hC.2.1 hd (k hC H locs arr hR hS hl)
theorem tr_ladd {x y : Int64} (hd : decode (cz_cc M) pc = .ok (.ladd, 1)) (k : Tr X M (pc + 1) ls (.long (x + y) :: st) cn K N I R L n w) : Tr X M pc ls (.long y :: .long x :: st) cn K N I R L n w := by
  obtain ⟨p, l, e, s, m, args, below, meth, c, A, Z, g⟩ := X
  intro hC H locs arr hR hS hl
  exact lv_ladd hC.1 hC.2.1 hd (k hC H locs arr hR hS hl)
theorem tr_lsub {x y : Int64} (hd : decode (cz_cc M) pc = .ok (.lsub, 1)) (k : Tr X M (pc + 1) ls (.long (x - y) :: st) cn K N I R L n w) : Tr X M pc ls (.long y :: .long x :: st) cn K N I R L n w := by
  obtain ⟨p, l, e, s, m, args, below, meth, c, A, Z, g⟩ := X
  intro hC H locs arr hR hS hl
  exact lv_lsub hC.1 hC.2.1 hd (k hC H locs arr hR hS hl)
theorem tr_lmul {x y : Int64} (hd : decode (cz_cc M) pc = .ok (.lmul, 1)) (k : Tr X M (pc + 1) ls (.long (x * y) :: st) cn K N I R L n w) : Tr X M pc ls (.long y :: .long x :: st) cn K N I R L n w := by
  obtain ⟨p, l, e, s, m, args, below, meth, c, A, Z, g⟩ := X
  intro hC H locs arr hR hS hl
  exact lv_lmul hC.1 hC.2.1 hd (k hC H locs arr hR hS hl)
theorem tr_lrem {x y : Int64} (hd : decode (cz_cc M) pc = .ok (.lrem, 1)) (h0 : ¬ y = 0) (k : Tr X M (pc + 1) ls (.long (x - x / y * y) :: st) cn K N I R L n w) : Tr X M pc ls (.long y :: .long x :: st) cn K N I R L n w := by
  obtain ⟨p, l, e, s, m, args, below, meth, c, A, Z, g⟩ := X
  intro hC H locs arr hR hS hl
  exact lv_lrem hC.1 hC.2.1 hd h0 (k hC H locs arr hR hS hl)
theorem tr_lcmp {x y : Int64} (hd : decode (cz_cc M) pc = .ok (.lcmp, 1)) (k : Tr X M (pc + 1) ls (.int (lg_cmp x y) :: st) cn K N I R L n w) : Tr X M pc ls (.long y :: .long x :: st) cn K N I R L n w := by
  obtain ⟨p, l, e, s, m, args, below, meth, c, A, Z, g⟩ := X
  intro hC H locs arr hR hS hl
  exact W.lcmp hC.1 hC.2.1 hd (k hC H locs arr hR hS hl)
theorem tr_i2l {x : Int32} (hd : decode (cz_cc M) pc = .ok (.i2l, 1)) (k : Tr X M (pc + 1) ls (.long x.toInt64 :: st) cn K N I R L n w) : Tr X M pc ls (.int x :: st) cn K N I R L n w := by
  obtain ⟨p, l, e, s, m, args, below, meth, c, A, Z, g⟩ := X
  intro hC H locs arr hR hS hl
  exact lv_i2l hC.1 hC.2.1 hd rfl (k hC H locs arr hR hS hl)
theorem tr_l2i {x : Int64} (hd : decode (cz_cc M) pc = .ok (.l2i, 1)) (k : Tr X M (pc + 1) ls (.int x.toInt32 :: st) cn K N I R L n w) : Tr X M pc ls (.long x :: st) cn K N I R L n w := by
  obtain ⟨p, l, e, s, m, args, below, meth, c, A, Z, g⟩ := X
  intro hC H locs arr hR hS hl
  exact lv_l2i hC.1 hC.2.1 hd rfl (k hC H locs arr hR hS hl)
theorem tr_i2b {x : Int32} (hd : decode (cz_cc M) pc = .ok (.i2b, 1)) (k : Tr X M (pc + 1) ls (.int x.toInt8.toInt32 :: st) cn K N I R L n w) : Tr X M pc ls (.int x :: st) cn K N I R L n w := by
  obtain ⟨p, l, e, s, m, args, below, meth, c, A, Z, g⟩ := X
  intro hC H locs arr hR hS hl
  exact lv_i2b hC.1 hC.2.1 hd rfl (k hC H locs arr hR hS hl)
theorem tr_i2c {x : Int32} (hd : decode (cz_cc M) pc = .ok (.i2c, 1)) (k : Tr X M (pc + 1) ls (.int (x.toUInt32 % 65536).toInt32 :: st) cn K N I R L n w) : Tr X M pc ls (.int x :: st) cn K N I R L n w := by
  obtain ⟨p, l, e, s, m, args, below, meth, c, A, Z, g⟩ := X
  intro hC H locs arr hR hS hl
  exact lv_i2c hC.1 hC.2.1 hd rfl (k hC H locs arr hR hS hl)
theorem tr_iconst {z : Int} {v : Int32} (hd : decode (cz_cc M) pc = .ok (.iconst z, 1)) (hv : Int32.ofInt z = v) (k : Tr X M (pc + 1) ls (.int v :: st) cn K N I R L n w) : Tr X M pc ls (st) cn K N I R L n w := by
  obtain ⟨p, l, e, s, m, args, below, meth, c, A, Z, g⟩ := X
  intro hC H locs arr hR hS hl
  exact lv_iconst hC.1 hC.2.1 hd hv (k hC H locs arr hR hS hl)
theorem tr_bipush {z : Int} {v : Int32} (hd : decode (cz_cc M) pc = .ok (.bipush z, 2)) (hv : (Int8.ofInt z).toInt32 = v) (k : Tr X M (pc + 2) ls (.int v :: st) cn K N I R L n w) : Tr X M pc ls (st) cn K N I R L n w := by
  obtain ⟨p, l, e, s, m, args, below, meth, c, A, Z, g⟩ := X
  intro hC H locs arr hR hS hl
  exact lv_bipush hC.1 hC.2.1 hd hv (k hC H locs arr hR hS hl)
theorem tr_sipush {z : Int} {v : Int32} (hd : decode (cz_cc M) pc = .ok (.sipush z, 3)) (hv : (Int16.ofInt z).toInt32 = v) (k : Tr X M (pc + 3) ls (.int v :: st) cn K N I R L n w) : Tr X M pc ls (st) cn K N I R L n w := by
  obtain ⟨p, l, e, s, m, args, below, meth, c, A, Z, g⟩ := X
  intro hC H locs arr hR hS hl
  exact lv_sipush hC.1 hC.2.1 hd hv (k hC H locs arr hR hS hl)
theorem tr_lconst {z : Fin 2} {v : Int64} (hd : decode (cz_cc M) pc = .ok (.lconst z, 1)) (hv : Int64.ofNat (z : Nat) = v) (k : Tr X M (pc + 1) ls (.long v :: st) cn K N I R L n w) : Tr X M pc ls (st) cn K N I R L n w := by
  obtain ⟨p, l, e, s, m, args, below, meth, c, A, Z, g⟩ := X
  intro hC H locs arr hR hS hl
  exact lv_lconst hC.1 hC.2.1 hd hv (k hC H locs arr hR hS hl)
theorem tr_dup {v : Value} (hd : decode (cz_cc M) pc = .ok (.dup, 1)) (hv : v.category = 1) (k : Tr X M (pc + 1) ls (v :: v :: st) cn K N I R L n w) : Tr X M pc ls (v :: st) cn K N I R L n w := by
  obtain ⟨p, l, e, s, m, args, below, meth, c, A, Z, g⟩ := X
  intro hC H locs arr hR hS hl
  exact lv_dup hC.1 hC.2.1 hd ((cz_rn_cat g v).trans hv) (k hC H locs arr hR hS hl)
theorem tr_pop {v : Value} (hd : decode (cz_cc M) pc = .ok (.pop, 1)) (hv : v.category = 1) (k : Tr X M (pc + 1) ls (st) cn K N I R L n w) : Tr X M pc ls (v :: st) cn K N I R L n w := by
  obtain ⟨p, l, e, s, m, args, below, meth, c, A, Z, g⟩ := X
  intro hC H locs arr hR hS hl
  exact lv_pop hC.1 hC.2.1 hd ((cz_rn_cat g v).trans hv) (k hC H locs arr hR hS hl)
theorem tr_dup2 {v u : Value} (hd : decode (cz_cc M) pc = .ok (.dup2, 1)) (hv : v.category = 1) (hu : u.category = 1) (k : Tr X M (pc + 1) ls (v :: u :: v :: u :: st) cn K N I R L n w) : Tr X M pc ls (v :: u :: st) cn K N I R L n w := by
  obtain ⟨p, l, e, s, m, args, below, meth, c, A, Z, g⟩ := X
  intro hC H locs arr hR hS hl
  exact lv_dup2_11 hC.1 hC.2.1 hd ((cz_rn_cat g v).trans hv) ((cz_rn_cat g u).trans hu) (k hC H locs arr hR hS hl)
theorem tr_iload_n {i : Fin 4} {x : Int32} (hd : decode (cz_cc M) pc = .ok (.iload_n i, 1)) (hv : ls i = some (.int x)) (k : Tr X M (pc + 1) ls (.int x :: st) cn K N I R L n w) : Tr X M pc ls (st) cn K N I R L n w := by
  obtain ⟨p, l, e, s, m, args, below, meth, c, A, Z, g⟩ := X
  intro hC H locs arr hR hS hl
  exact lv_iload_n hC.1 hC.2.1 hd rfl (hl.2.2.1 _ _ hv) (k hC H locs arr hR hS hl)
theorem tr_iload {i : Nat} {x : Int32} (hd : decode (cz_cc M) pc = .ok (.iload i, 2)) (hv : ls i = some (.int x)) (k : Tr X M (pc + 2) ls (.int x :: st) cn K N I R L n w) : Tr X M pc ls (st) cn K N I R L n w := by
  obtain ⟨p, l, e, s, m, args, below, meth, c, A, Z, g⟩ := X
  intro hC H locs arr hR hS hl
  exact lv_iload hC.1 hC.2.1 hd (hl.2.2.1 _ _ hv) (k hC H locs arr hR hS hl)
theorem tr_lload_n {i : Fin 4} {x : Int64} (hd : decode (cz_cc M) pc = .ok (.lload_n i, 1)) (hv : ls i = some (.long x)) (k : Tr X M (pc + 1) ls (.long x :: st) cn K N I R L n w) : Tr X M pc ls (st) cn K N I R L n w := by
  obtain ⟨p, l, e, s, m, args, below, meth, c, A, Z, g⟩ := X
  intro hC H locs arr hR hS hl
  exact lv_lload_n hC.1 hC.2.1 hd rfl (hl.2.2.1 _ _ hv) (k hC H locs arr hR hS hl)
theorem tr_aload_n {i : Fin 4} {x : Nat} (hd : decode (cz_cc M) pc = .ok (.aload_n i, 1)) (hv : ls i = some (.ref x)) (k : Tr X M (pc + 1) ls (.ref x :: st) cn K N I R L n w) : Tr X M pc ls (st) cn K N I R L n w := by
  obtain ⟨p, l, e, s, m, args, below, meth, c, A, Z, g⟩ := X
  intro hC H locs arr hR hS hl
  exact lv_aload_n hC.1 hC.2.1 hd rfl (hl.2.2.1 _ _ hv) (k hC H locs arr hR hS hl)
theorem tr_aload {i x : Nat} (hd : decode (cz_cc M) pc = .ok (.aload i, 2)) (hv : ls i = some (.ref x)) (k : Tr X M (pc + 2) ls (.ref x :: st) cn K N I R L n w) : Tr X M pc ls (st) cn K N I R L n w := by
  obtain ⟨p, l, e, s, m, args, below, meth, c, A, Z, g⟩ := X
  intro hC H locs arr hR hS hl
  exact lv_aload hC.1 hC.2.1 hd (hl.2.2.1 _ _ hv) (k hC H locs arr hR hS hl)
theorem tr_aload_nS {i : Fin 4} {x : UInt32} (hd : decode (cz_cc M) pc = .ok (.aload_n i, 1)) (hv : ls i = some (.float x)) (k : Tr X M (pc + 1) ls (.float x :: st) cn K N I R L n w) : Tr X M pc ls (st) cn K N I R L n w := by
  obtain ⟨p, l, e, s, m, args, below, meth, c, A, Z, g⟩ := X
  intro hC H locs arr hR hS hl
  exact lv_aload_n hC.1 hC.2.1 hd rfl (hl.2.2.1 _ _ hv) (k hC H locs arr hR hS hl)
theorem tr_aloadS {i : Nat} {x : UInt32} (hd : decode (cz_cc M) pc = .ok (.aload i, 2)) (hv : ls i = some (.float x)) (k : Tr X M (pc + 2) ls (.float x :: st) cn K N I R L n w) : Tr X M pc ls (st) cn K N I R L n w := by
  obtain ⟨p, l, e, s, m, args, below, meth, c, A, Z, g⟩ := X
  intro hC H locs arr hR hS hl
  exact lv_aload hC.1 hC.2.1 hd (hl.2.2.1 _ _ hv) (k hC H locs arr hR hS hl)
theorem tr_if_eq {x : Int32} {off : Int} (tgt : Nat) (hd : decode (cz_cc M) pc = .ok (.ifCond .eq off, 3)) (ht : (pc : Int) + off = (tgt : Int)) (kt : x = 0 → Tr X M tgt ls st cn K N I R L n w) (kf : ¬ x = 0 → Tr X M (pc + 3) ls st cn K N I R L n w) : Tr X M pc ls (.int x :: st) cn K N I R L n w := by
  obtain ⟨p, l, e, s, m, args, below, meth, c, A, Z, g⟩ := X
  intro hC H locs arr hR hS hl
  exact lv_if_eq hC.1 hC.2.1 hd ht (fun q => kt q hC H locs arr hR hS hl) (fun q => kf q hC H locs arr hR hS hl)
theorem tr_icmp_eq {x y : Int32} {off : Int} (tgt : Nat) (hd : decode (cz_cc M) pc = .ok (.if_icmp .eq off, 3)) (ht : (pc : Int) + off = (tgt : Int)) (kt : x = y → Tr X M tgt ls st cn K N I R L n w) (kf : ¬ x = y → Tr X M (pc + 3) ls st cn K N I R L n w) : Tr X M pc ls (.int y :: .int x :: st) cn K N I R L n w := by
  obtain ⟨p, l, e, s, m, args, below, meth, c, A, Z, g⟩ := X
  intro hC H locs arr hR hS hl
  exact lv_icmp_eq hC.1 hC.2.1 hd ht (fun q => kt q hC H locs arr hR hS hl) (fun q => kf q hC H locs arr hR hS hl)
theorem tr_if_ne {x : Int32} {off : Int} (tgt : Nat) (hd : decode (cz_cc M) pc = .ok (.ifCond .ne off, 3)) (ht : (pc : Int) + off = (tgt : Int)) (kt : ¬ x = 0 → Tr X M tgt ls st cn K N I R L n w) (kf : x = 0 → Tr X M (pc + 3) ls st cn K N I R L n w) : Tr X M pc ls (.int x :: st) cn K N I R L n w := by
  obtain ⟨p, l, e, s, m, args, below, meth, c, A, Z, g⟩ := X
  intro hC H locs arr hR hS hl
  exact lv_if_ne hC.1 hC.2.1 hd ht (fun q => kt q hC H locs arr hR hS hl) (fun q => kf q hC H locs arr hR hS hl)
theorem tr_icmp_ne {x y : Int32} {off : Int} (tgt : Nat) (hd : decode (cz_cc M) pc = .ok (.if_icmp .ne off, 3)) (ht : (pc : Int) + off = (tgt : Int)) (kt : ¬ x = y → Tr X M tgt ls st cn K N I R L n w) (kf : x = y → Tr X M (pc + 3) ls st cn K N I R L n w) : Tr X M pc ls (.int y :: .int x :: st) cn K N I R L n w := by
  obtain ⟨p, l, e, s, m, args, below, meth, c, A, Z, g⟩ := X
  intro hC H locs arr hR hS hl
  exact lv_icmp_ne hC.1 hC.2.1 hd ht (fun q => kt q hC H locs arr hR hS hl) (fun q => kf q hC H locs arr hR hS hl)
theorem tr_if_lt {x : Int32} {off : Int} (tgt : Nat) (hd : decode (cz_cc M) pc = .ok (.ifCond .lt off, 3)) (ht : (pc : Int) + off = (tgt : Int)) (kt : x < 0 → Tr X M tgt ls st cn K N I R L n w) (kf : ¬ x < 0 → Tr X M (pc + 3) ls st cn K N I R L n w) : Tr X M pc ls (.int x :: st) cn K N I R L n w := by
  obtain ⟨p, l, e, s, m, args, below, meth, c, A, Z, g⟩ := X
  intro hC H locs arr hR hS hl
  exact lv_if_lt hC.1 hC.2.1 hd ht (fun q => kt q hC H locs arr hR hS hl) (fun q => kf q hC H locs arr hR hS hl)
theorem tr_icmp_lt {x y : Int32} {off : Int} (tgt : Nat) (hd : decode (cz_cc M) pc = .ok (.if_icmp .lt off, 3)) (ht : (pc : Int) + off = (tgt : Int)) (kt : x < y → Tr X M tgt ls st cn K N I R L n w) (kf : ¬ x < y → Tr X M (pc + 3) ls st cn K N I R L n w) : Tr X M pc ls (.int y :: .int x :: st) cn K N I R L n w := by
  obtain ⟨p, l, e, s, m, args, below, meth, c, A, Z, g⟩ := X
  intro hC H locs arr hR hS hl
  exact lv_icmp_lt hC.1 hC.2.1 hd ht (fun q => kt q hC H locs arr hR hS hl) (fun q => kf q hC H locs arr hR hS hl)
theorem tr_if_ge {x : Int32} {off : Int} (tgt : Nat) (hd : decode (cz_cc M) pc = .ok (.ifCond .ge off, 3)) (ht : (pc : Int) + off = (tgt : Int)) (kt : 0 ≤ x → Tr X M tgt ls st cn K N I R L n w) (kf : ¬ 0 ≤ x → Tr X M (pc + 3) ls st cn K N I R L n w) : Tr X M pc ls (.int x :: st) cn K N I R L n w := by
  obtain ⟨p, l, e, s, m, args, below, meth, c, A, Z, g⟩ := X
  intro hC H locs arr hR hS hl
  exact lv_if_ge hC.1 hC.2.1 hd ht (fun q => kt q hC H locs arr hR hS hl) (fun q => kf q hC H locs arr hR hS hl)
theorem tr_icmp_ge {x y : Int32} {off : Int} (tgt : Nat) (hd : decode (cz_cc M) pc = .ok (.if_icmp .ge off, 3)) (ht : (pc : Int) + off = (tgt : Int)) (kt : y ≤ x → Tr X M tgt ls st cn K N I R L n w) (kf : ¬ y ≤ x → Tr X M (pc + 3) ls st cn K N I R L n w) : Tr X M pc ls (.int y :: .int x :: st) cn K N I R L n w := by
  obtain ⟨p, l, e, s, m, args, below, meth, c, A, Z, g⟩ := X
  intro hC H locs arr hR hS hl
  exact lv_icmp_ge hC.1 hC.2.1 hd ht (fun q => kt q hC H locs arr hR hS hl) (fun q => kf q hC H locs arr hR hS hl)
theorem tr_if_gt {x : Int32} {off : Int} (tgt : Nat) (hd : decode (cz_cc M) pc = .ok (.ifCond .gt off, 3)) (ht : (pc : Int) + off = (tgt : Int)) (kt : 0 < x → Tr X M tgt ls st cn K N I R L n w) (kf : ¬ 0 < x → Tr X M (pc + 3) ls st cn K N I R L n w) : Tr X M pc ls (.int x :: st) cn K N I R L n w := by
  obtain ⟨p, l, e, s, m, args, below, meth, c, A, Z, g⟩ := X
  intro hC H locs arr hR hS hl
  exact lv_if_gt hC.1 hC.2.1 hd ht (fun q => kt q hC H locs arr hR hS hl) (fun q => kf q hC H locs arr hR hS hl)
theorem tr_icmp_gt {x y : Int32} {off : Int} (tgt : Nat) (hd : decode (cz_cc M) pc = .ok (.if_icmp .gt off, 3)) (ht : (pc : Int) + off = (tgt : Int)) (kt : y < x → Tr X M tgt ls st cn K N I R L n w) (kf : ¬ y < x → Tr X M (pc + 3) ls st cn K N I R L n w) : Tr X M pc ls (.int y :: .int x :: st) cn K N I R L n w := by
  obtain ⟨p, l, e, s, m, args, below, meth, c, A, Z, g⟩ := X
  intro hC H locs arr hR hS hl
  exact lv_icmp_gt hC.1 hC.2.1 hd ht (fun q => kt q hC H locs arr hR hS hl) (fun q => kf q hC H locs arr hR hS hl)
theorem tr_if_le {x : Int32} {off : Int} (tgt : Nat) (hd : decode (cz_cc M) pc = .ok (.ifCond .le off, 3)) (ht : (pc : Int) + off = (tgt : Int)) (kt : x ≤ 0 → Tr X M tgt ls st cn K N I R L n w) (kf : ¬ x ≤ 0 → Tr X M (pc + 3) ls st cn K N I R L n w) : Tr X M pc ls (.int x :: st) cn K N I R L n w := by
  obtain ⟨p, l, e, s, m, args, below, meth, c, A, Z, g⟩ := X
  intro hC H locs arr hR hS hl
  exact lv_if_le hC.1 hC.2.1 hd ht (fun q => kt q hC H locs arr hR hS hl) (fun q => kf q hC H locs arr hR hS hl)
theorem tr_icmp_le {x y : Int32} {off : Int} (tgt : Nat) (hd : decode (cz_cc M) pc = .ok (.if_icmp .le off, 3)) (ht : (pc : Int) + off = (tgt : Int)) (kt : x ≤ y → Tr X M tgt ls st cn K N I R L n w) (kf : ¬ x ≤ y → Tr X M (pc + 3) ls st cn K N I R L n w) : Tr X M pc ls (.int y :: .int x :: st) cn K N I R L n w := by
  obtain ⟨p, l, e, s, m, args, below, meth, c, A, Z, g⟩ := X
  intro hC H locs arr hR hS hl
  exact lv_icmp_le hC.1 hC.2.1 hd ht (fun q => kt q hC H locs arr hR hS hl) (fun q => kf q hC H locs arr hR hS hl)
theorem tr_goto {off : Int} (tgt : Nat) (hd : decode (cz_cc M) pc = .ok (.goto off, 3)) (ht : (pc : Int) + off = (tgt : Int)) (k : Tr X M tgt ls st cn K N I R L n w) : Tr X M pc ls (st) cn K N I R L n w := by
  obtain ⟨p, l, e, s, m, args, below, meth, c, A, Z, g⟩ := X
  intro hC H locs arr hR hS hl
  exact lv_goto hC.1 hC.2.1 hd ht (k hC H locs arr hR hS hl)
theorem tr_ifnonnull {off : Int} {x : Nat} (tgt : Nat) (hd : decode (cz_cc M) pc = .ok (.ifnonnull off, 3)) (ht : (pc : Int) + off = (tgt : Int)) (k : Tr X M tgt ls st cn K N I R L n w) : Tr X M pc ls (.ref x :: st) cn K N I R L n w := by
  obtain ⟨p, l, e, s, m, args, below, meth, c, A, Z, g⟩ := X
  intro hC H locs arr hR hS hl
  exact lv_ifnonnull hC.1 hC.2.1 hd ht (k hC H locs arr hR hS hl)
theorem tr_ifnonnullN {off : Int} (hd : decode (cz_cc M) pc = .ok (.ifnonnull off, 3)) (k : Tr X M (pc + 3) ls (st) cn K N I R L n w) : Tr X M pc ls (.null :: st) cn K N I R L n w := by
  obtain ⟨p, l, e, s, m, args, below, meth, c, A, Z, g⟩ := X
  intro hC H locs arr hR hS hl
  exact lv_ifnonnullN hC.1 hC.2.1 hd (k hC H locs arr hR hS hl)
theorem tr_ifnull {off : Int} {x : Nat} (hd : decode (cz_cc M) pc = .ok (.ifnull off, 3)) (k : Tr X M (pc + 3) ls (st) cn K N I R L n w) : Tr X M pc ls (.ref x :: st) cn K N I R L n w := by
  obtain ⟨p, l, e, s, m, args, below, meth, c, A, Z, g⟩ := X
  intro hC H locs arr hR hS hl
  exact lv_ifnull hC.1 hC.2.1 hd (k hC H locs arr hR hS hl)
theorem tr_ifnullN {off : Int} (tgt : Nat) (hd : decode (cz_cc M) pc = .ok (.ifnull off, 3)) (ht : (pc : Int) + off = (tgt : Int)) (k : Tr X M tgt ls st cn K N I R L n w) : Tr X M pc ls (.null :: st) cn K N I R L n w := by
  obtain ⟨p, l, e, s, m, args, below, meth, c, A, Z, g⟩ := X
  intro hC H locs arr hR hS hl
  exact lv_ifnullN hC.1 hC.2.1 hd ht (k hC H locs arr hR hS hl)
theorem tr_lookup {dflt off : Int} {ps : Array (Int × Int)} {len : Nat} {x : Int32} (tgt : Nat) (hd : decode (cz_cc M) pc = .ok (.lookupswitch dflt ps, len)) (hp : (ps.toList.zip (ps.toList.drop 1)).all (fun (a, next) => a.1 < next.1) = true) (ho : Op.lookupswitch.offset ps.toList dflt x.toInt = off) (ht : (pc : Int) + off = (tgt : Int)) (k : Tr X M tgt ls st cn K N I R L n w) : Tr X M pc ls (.int x :: st) cn K N I R L n w := by
  obtain ⟨p, l, e, s, m, args, below, meth, c, A, Z, g⟩ := X
  intro hC H locs arr hR hS hl
  exact lv_lookup hC.1 hC.2.1 hd hp ho ht (k hC H locs arr hR hS hl)
theorem tr_tabOut {dflt lo hi : Int} {offs : Array Int} {len : Nat} {x : Int32} (tgt : Nat) (hd : decode (cz_cc M) pc = .ok (.tableswitch dflt lo hi offs, len)) (h : x.toInt < lo ∨ hi < x.toInt) (ht : (pc : Int) + dflt = (tgt : Int)) (k : Tr X M tgt ls st cn K N I R L n w) : Tr X M pc ls (.int x :: st) cn K N I R L n w := by
  obtain ⟨p, l, e, s, m, args, below, meth, c, A, Z, g⟩ := X
  intro hC H locs arr hR hS hl
  exact lv_tableOut hC.1 hC.2.1 hd h ht (k hC H locs arr hR hS hl)
theorem tr_tabIn {dflt lo hi off : Int} {offs : Array Int} {len : Nat} {x : Int32} (tgt : Nat) (hd : decode (cz_cc M) pc = .ok (.tableswitch dflt lo hi offs, len)) (h1 : ¬ x.toInt < lo) (h2 : ¬ hi < x.toInt) (ho : offs[(x.toInt - lo).toNat]? = some off) (ht : (pc : Int) + off = (tgt : Int)) (k : Tr X M tgt ls st cn K N I R L n w) : Tr X M pc ls (.int x :: st) cn K N I R L n w := by
  obtain ⟨p, l, e, s, m, args, below, meth, c, A, Z, g⟩ := X
  intro hC H locs arr hR hS hl
  exact lv_tableIn hC.1 hC.2.1 hd h1 h2 ho ht (k hC H locs arr hR hS hl)
end CzRules
end
section
/-! ===== links by their numbers ===== -/
/-- field entries of a class's pool: entry, class, field, kind, nest mate's, its word's place -/
def cz_ft : Nat → List (Nat × Nat × Nat × Nat × Bool × Nat)
  | 0 => [(9, 0, 2, 1, false, 283), (17, 0, 4, 1, false, 290), (21, 0, 6, 1, false, 298), (27, 0, 8, 1, false, 305), (33, 0, 10, 1, false, 314), (39, 0, 12, 1, false, 321), (43, 0, 14, 1, false, 327), (50, 0, 0, 0, false, 274), (54, 0, 1, 0, false, 279), (57, 0, 3, 0, false, 286), (60, 0, 5, 0, false, 294), (63, 0, 7, 0, false, 302), (66, 4, 0, 0, false, 177), (69, 0, 9, 0, false, 310), (72, 0, 11, 0, false, 317), (75, 0, 13, 0, false, 324), (82, 1, 3, 0, false, 263)]
  | 3 => [(9, 3, 3, 1, false, 435), (15, 3, 4, 1, false, 438), (18, 3, 0, 0, false, 428), (22, 3, 1, 0, false, 430), (25, 3, 2, 0, false, 432)]
  | 4 => [(9, 4, 1, 1, false, 181), (15, 4, 0, 0, false, 176)]
  | 5 => [(9, 5, 3, 1, false, 539), (15, 5, 4, 1, false, 540), (18, 5, 5, 1, false, 542), (21, 5, 6, 1, false, 544), (24, 5, 7, 1, false, 546), (27, 5, 8, 1, false, 548), (30, 5, 9, 1, false, 550), (33, 5, 10, 1, false, 552), (36, 5, 11, 1, false, 554), (39, 5, 0, 1, false, 536), (43, 5, 1, 1, false, 537), (47, 5, 2, 0, false, 538), (54, 0, 7, 0, false, 303), (59, 8, 10, 0, false, 500), (64, 8, 11, 1, false, 503), (81, 0, 9, 0, false, 311), (90, 0, 10, 1, false, 315), (94, 9, 5, 0, false, 237), (107, 0, 5, 0, false, 297), (110, 9, 3, 0, false, 233), (112, 0, 6, 1, false, 299), (115, 8, 8, 1, false, 495), (118, 9, 4, 0, false, 235), (125, 9, 1, 0, false, 229), (128, 9, 2, 0, false, 231), (131, 9, 0, 0, false, 227), (134, 8, 2, 1, false, 486), (141, 0, 11, 0, false, 318), (144, 0, 12, 1, false, 322), (147, 1, 0, 0, false, 257), (152, 1, 1, 0, false, 259), (155, 1, 2, 0, false, 261), (158, 0, 8, 1, false, 307), (168, 8, 1, 0, false, 484), (171, 8, 9, 1, false, 499), (174, 0, 0, 0, false, 277), (187, 4, 0, 0, false, 178), (190, 4, 1, 1, false, 182), (192, 0, 2, 1, false, 284)]
  | 6 => [(11, 6, 1, 1, false, 463), (17, 6, 3, 1, false, 466), (21, 6, 0, 0, false, 461), (25, 6, 2, 0, false, 464)]
  | 7 => [(9, 7, 13, 1, false, 380), (15, 7, 14, 1, false, 381), (18, 7, 0, 1, false, 367), (22, 7, 10, 1, false, 377), (31, 7, 11, 3, false, 378), (35, 7, 12, 3, false, 379), (38, 7, 15, 0, false, 382), (42, 7, 16, 0, false, 384), (45, 7, 1, 0, false, 368), (48, 7, 2, 0, false, 369), (58, 7, 3, 0, false, 370), (61, 0, 5, 0, false, 295), (68, 7, 4, 0, false, 371), (78, 7, 5, 2, false, 372), (86, 7, 6, 0, false, 373), (109, 7, 7, 0, false, 374), (112, 0, 1, 0, false, 281), (118, 0, 0, 0, false, 278), (121, 7, 8, 0, false, 375), (129, 7, 9, 0, false, 376), (156, 0, 9, 0, false, 312), (159, 0, 11, 0, false, 319), (162, 0, 13, 0, false, 325), (165, 0, 3, 0, false, 288), (183, 0, 8, 1, false, 308), (196, 0, 14, 1, false, 328), (207, 0, 2, 1, false, 285), (213, 0, 4, 1, false, 292), (217, 2, 0, 0, false, 202), (220, 2, 1, 0, false, 205), (229, 2, 2, 0, false, 208), (230, 2, 3, 0, false, 211), (235, 0, 6, 1, false, 301), (240, 0, 7, 0, false, 304), (243, 0, 10, 1, false, 316), (250, 9, 0, 0, false, 228), (254, 9, 1, 0, false, 230), (255, 9, 2, 0, false, 232), (258, 9, 3, 0, false, 234), (262, 9, 4, 0, false, 236), (274, 9, 5, 0, false, 238), (285, 0, 12, 1, false, 323), (289, 1, 0, 0, false, 258), (295, 1, 1, 0, false, 260), (299, 1, 2, 0, false, 262), (304, 1, 3, 0, false, 264), (306, 4, 0, 0, false, 179), (311, 4, 1, 1, false, 183)]
  | 8 => [(9, 8, 2, 1, false, 485), (15, 8, 3, 1, false, 487), (18, 8, 4, 1, false, 488), (21, 8, 5, 1, false, 489), (25, 8, 6, 1, false, 490), (28, 8, 7, 1, false, 492), (31, 8, 8, 1, false, 494), (34, 8, 9, 1, false, 497), (37, 8, 11, 1, false, 502), (40, 0, 0, 0, false, 275), (46, 8, 0, 0, false, 482), (47, 0, 1, 0, false, 280), (50, 8, 1, 0, false, 483), (56, 0, 3, 0, false, 287), (59, 0, 4, 1, false, 291), (67, 3, 2, 0, false, 433), (72, 3, 3, 1, false, 436), (75, 3, 4, 1, false, 439), (85, 0, 8, 1, false, 306), (93, 2, 2, 0, false, 207), (97, 2, 3, 0, false, 210), (99, 2, 0, 0, false, 201), (102, 2, 1, 0, false, 204), (109, 8, 10, 0, false, 501)]
  | 10 => [(9, 10, 0, 1, false, 580), (16, 10, 2, 1, false, 582), (20, 10, 3, 1, false, 583), (28, 10, 4, 1, false, 584), (35, 10, 6, 1, false, 586), (42, 10, 7, 1, false, 587), (49, 10, 8, 1, false, 588), (58, 10, 10, 1, false, 590), (62, 10, 12, 1, false, 592), (65, 10, 13, 1, false, 593), (68, 10, 14, 1, false, 594), (71, 10, 1, 0, false, 581), (87, 7, 15, 0, false, 383), (90, 10, 15, 0, false, 595), (91, 7, 16, 0, false, 385), (94, 10, 16, 0, false, 596), (95, 10, 5, 3, false, 585), (106, 0, 5, 0, false, 296), (112, 10, 17, 0, false, 597), (129, 8, 7, 1, false, 493), (133, 8, 6, 1, false, 491), (140, 8, 9, 1, false, 498), (143, 8, 8, 1, false, 496), (146, 0, 0, 0, false, 276), (166, 5, 8, 1, false, 549), (169, 5, 9, 1, false, 551), (172, 5, 10, 1, false, 553), (181, 3, 0, 0, false, 429), (204, 0, 6, 1, false, 300), (207, 5, 4, 1, false, 541), (210, 5, 5, 1, false, 543), (213, 5, 6, 1, false, 545), (216, 5, 7, 1, false, 547), (255, 0, 14, 1, false, 329), (269, 3, 1, 0, false, 431), (272, 3, 2, 0, false, 434), (278, 0, 11, 0, false, 320), (288, 10, 11, 3, false, 591), (311, 0, 3, 0, false, 289), (313, 0, 4, 1, false, 293), (317, 2, 0, 0, false, 203), (322, 2, 1, 0, false, 206), (332, 0, 1, 0, false, 282), (335, 0, 9, 0, false, 313), (338, 0, 13, 0, false, 326), (341, 0, 8, 1, false, 309), (345, 4, 0, 0, false, 180), (350, 6, 0, 0, false, 462), (353, 6, 2, 0, false, 465), (358, 10, 9, 3, false, 589), (361, 2, 2, 0, false, 209), (364, 3, 3, 1, false, 437), (366, 2, 3, 0, false, 212), (369, 3, 4, 1, false, 440)]
  | 11 => [(9, 11, 10, 1, false, 1500), (15, 11, 11, 1, false, 1502), (18, 11, 12, 1, false, 1504), (21, 11, 13, 1, false, 1506), (24, 11, 14, 1, false, 1508), (27, 11, 15, 1, false, 1510), (30, 11, 16, 1, false, 1512), (33, 11, 17, 1, false, 1514), (36, 11, 18, 1, false, 1516), (39, 11, 19, 1, false, 1518), (43, 11, 20, 1, false, 1520), (46, 11, 21, 1, false, 1522), (49, 11, 22, 1, false, 1524), (52, 11, 23, 1, false, 1526), (55, 11, 24, 1, false, 1528), (58, 11, 25, 1, false, 1530), (61, 11, 26, 1, false, 1532), (64, 11, 27, 1, false, 1534), (67, 11, 28, 1, false, 1536), (70, 11, 29, 1, false, 1538), (73, 11, 30, 1, false, 1540), (77, 11, 31, 1, false, 1542), (80, 11, 32, 1, false, 1544), (83, 11, 7, 0, false, 1496)]
  | 12 => [(9, 12, 2, 0, false, 1360), (13, 12, 5, 1, false, 1363), (17, 12, 16, 1, false, 1374), (21, 12, 17, 1, false, 1375), (24, 12, 18, 1, false, 1376), (27, 12, 21, 1, false, 1379), (31, 12, 22, 1, false, 1380), (34, 12, 23, 1, false, 1381), (37, 12, 24, 1, false, 1382), (40, 12, 25, 1, false, 1383), (43, 12, 26, 1, false, 1384), (46, 12, 27, 1, false, 1385), (49, 12, 28, 1, false, 1386), (52, 12, 29, 1, false, 1387), (55, 12, 30, 1, false, 1388), (58, 12, 31, 1, false, 1389), (61, 12, 32, 1, false, 1390), (64, 12, 33, 1, false, 1391), (67, 12, 35, 1, false, 1393), (70, 12, 0, 0, false, 1358), (73, 12, 1, 0, false, 1359), (84, 12, 7, 0, false, 1365), (99, 12, 9, 0, false, 1367), (102, 12, 8, 0, false, 1366), (108, 12, 10, 0, false, 1368), (111, 12, 11, 0, false, 1369), (118, 12, 15, 2, false, 1373), (125, 12, 12, 0, false, 1370), (128, 12, 13, 0, false, 1371), (131, 12, 14, 0, false, 1372), (188, 12, 4, 1, false, 1362), (192, 11, 0, 0, true, 0), (205, 11, 30, 1, true, 30), (209, 11, 7, 0, true, 7), (212, 11, 31, 1, true, 31), (215, 11, 32, 1, true, 32), (224, 11, 3, 0, true, 3), (260, 11, 10, 1, true, 10), (263, 11, 1, 0, true, 1), (265, 11, 2, 0, true, 2), (274, 11, 11, 1, true, 11), (277, 11, 12, 1, true, 12), (280, 11, 13, 1, true, 13), (283, 11, 14, 1, true, 14), (296, 11, 15, 1, true, 15), (299, 11, 19, 1, true, 19), (302, 11, 9, 3, true, 9), (306, 11, 16, 1, true, 16), (312, 11, 8, 0, true, 8), (315, 11, 4, 0, true, 4), (333, 11, 20, 1, true, 20), (336, 11, 21, 1, true, 21), (339, 11, 22, 1, true, 22), (342, 11, 23, 1, true, 23), (344, 11, 24, 1, true, 24), (346, 11, 25, 1, true, 25), (349, 11, 5, 0, true, 5), (358, 11, 26, 1, true, 26), (361, 11, 27, 1, true, 27), (364, 11, 28, 1, true, 28), (367, 11, 29, 1, true, 29), (370, 11, 6, 0, true, 6), (373, 11, 18, 1, true, 18), (375, 11, 17, 1, true, 17), (378, 12, 6, 0, false, 1364), (385, 12, 3, 1, false, 1361), (387, 12, 19, 0, false, 1377), (390, 12, 20, 0, false, 1378), (470, 12, 34, 0, false, 1392)]
  | _ => []
def cz_fl (o idx : Nat) : Option (Nat × Nat × Nat × Bool) := ((cz_ft o).find? (fun q => q.1 == idx)).map (fun q => (q.2.1, q.2.2.1, q.2.2.2.1, q.2.2.2.2.1))
def cz_fch (o : Nat) (q : Nat × Nat × Nat × Nat × Bool × Nat) : Bool :=
  decide (q.2.1 < 13) && decide (q.2.2.1 < cz_nf q.2.1) && decide ((cz_fk q.2.1)[q.2.2.1]? = some q.2.2.2.1) &&
  (if q.2.2.2.2.1 then decide ((cz_NF[q.2.2.2.2.2]?).map (fun z => (z.1, z.2.1, z.2.2.1, z.2.2.2.1, z.2.2.2.2.1)) = some (cz_on o, q.1, (cz_TT q.2.1 q.2.2.1).1, (cz_TT q.2.1 q.2.2.1).2.1, (cz_TT q.2.1 q.2.2.1).2.2.1))
   else goodWord (.fieldLink (cz_on o) q.1 (cz_TT q.2.1 q.2.2.1).1 (cz_TT q.2.1 q.2.2.1).2.1 (cz_TT q.2.1 q.2.2.1).2.2.1) && decide (lw_tbl[q.2.2.2.2.2]? = some (.fieldLink (cz_on o) q.1 (cz_TT q.2.1 q.2.2.1).1 (cz_TT q.2.1 q.2.2.1).2.1 (cz_TT q.2.1 q.2.2.1).2.2.1)))
theorem cz_fc0 : (cz_ft 0).all (cz_fch 0) = true := by decide +kernel
theorem cz_fc1 : (cz_ft 1).all (cz_fch 1) = true := by decide +kernel
theorem cz_fc2 : (cz_ft 2).all (cz_fch 2) = true := by decide +kernel
theorem cz_fc3 : (cz_ft 3).all (cz_fch 3) = true := by decide +kernel
theorem cz_fc4 : (cz_ft 4).all (cz_fch 4) = true := by decide +kernel
theorem cz_fc5 : (cz_ft 5).all (cz_fch 5) = true := by decide +kernel
theorem cz_fc6 : (cz_ft 6).all (cz_fch 6) = true := by decide +kernel
theorem cz_fc7 : (cz_ft 7).all (cz_fch 7) = true := by decide +kernel
theorem cz_fc8 : (cz_ft 8).all (cz_fch 8) = true := by decide +kernel
theorem cz_fc9 : (cz_ft 9).all (cz_fch 9) = true := by decide +kernel
theorem cz_fc10 : (cz_ft 10).all (cz_fch 10) = true := by decide +kernel
theorem cz_fc11 : (cz_ft 11).all (cz_fch 11) = true := by decide +kernel
theorem cz_fc12 : (cz_ft 12).all (cz_fch 12) = true := by decide +kernel
theorem cz_fc13 : (cz_ft 13).all (cz_fch 13) = true := by decide +kernel
theorem cz_fc14 : (cz_ft 14).all (cz_fch 14) = true := by decide +kernel
theorem cz_fc15 : (cz_ft 15).all (cz_fch 15) = true := by decide +kernel
theorem cz_fc16 : (cz_ft 16).all (cz_fch 16) = true := by decide +kernel
theorem cz_fall (o : Nat) : (cz_ft o).all (cz_fch o) = true := match o with
  | 0 => cz_fc0
  | 1 => cz_fc1
  | 2 => cz_fc2
  | 3 => cz_fc3
  | 4 => cz_fc4
  | 5 => cz_fc5
  | 6 => cz_fc6
  | 7 => cz_fc7
  | 8 => cz_fc8
  | 9 => cz_fc9
  | 10 => cz_fc10
  | 11 => cz_fc11
  | 12 => cz_fc12
  | 13 => cz_fc13
  | 14 => cz_fc14
  | 15 => cz_fc15
  | 16 => cz_fc16
  | _ + 17 => rfl
theorem cz_in {w : Cond} {i : Nat} (h : lw_tbl[i]? = some w) (hg : goodWord w = true) : w ∈ cz_T := List.mem_filter.mpr ⟨List.mem_of_getElem? h, hg⟩
theorem cz_fl_spec {o idx ci j kd : Nat} {b : Bool} (h : cz_fl o idx = some (ci, j, kd, b)) : ci < 13 ∧ j < cz_nf ci ∧ (cz_fk ci)[j]? = some kd ∧ (b = false → Cond.fieldLink (cz_on o) idx (cz_TT ci j).1 (cz_TT ci j).2.1 (cz_TT ci j).2.2.1 ∈ cz_T) ∧ (b = true → ∃ host, (cz_on o, idx, (cz_TT ci j).1, (cz_TT ci j).2.1, (cz_TT ci j).2.2.1, host) ∈ cz_NF) := by
  unfold cz_fl at h
  cases hq : (cz_ft o).find? (fun q => q.1 == idx) with
  | none => rw [hq] at h; cases h
  | some q =>
    rw [hq] at h
    obtain ⟨q0, q1, q2, q3, q4, q5⟩ := q
    have he := List.find?_some hq
    have hm := List.mem_of_find?_eq_some hq
    have hc := List.all_eq_true.mp (cz_fall o) _ hm
    simp only [Option.map_some, Option.some.injEq, Prod.mk.injEq] at h
    obtain ⟨rfl, rfl, rfl, rfl⟩ := h
    have he : q0 = idx := by simpa using he
    subst he
    simp only [cz_fch, Bool.and_eq_true, decide_eq_true_eq] at hc
    obtain ⟨⟨⟨h1, h2⟩, h3⟩, h4⟩ := hc
    refine ⟨h1, h2, h3, fun hb => ?_, fun hb => ?_⟩
    · rw [hb] at h4
      simp only [Bool.false_eq_true, if_false, Bool.and_eq_true, decide_eq_true_eq] at h4
      exact cz_in h4.2 h4.1
    · rw [hb] at h4
      simp only [if_true, decide_eq_true_eq] at h4
      cases hz : cz_NF[q5]? with
      | none => rw [hz] at h4; cases h4
      | some z =>
        rw [hz] at h4
        obtain ⟨z0, z1, z2, z3, z4, z5⟩ := z
        simp only [Option.map_some, Option.some.injEq, Prod.mk.injEq] at h4
        obtain ⟨rfl, rfl, rfl, rfl, rfl⟩ := h4
        exact ⟨z5, List.mem_of_getElem? hz⟩
/-! ===== the classes ===== -/
theorem cz_i0 : ∀ w ∈ u_ws RX0 TX0 15, w ∈ cz_T := fun w h => List.mem_filter.mpr ((by decide +kernel : ∀ w ∈ u_ws RX0 TX0 15, w ∈ lw_tbl ∧ goodWord w = true) w h)
theorem cz_i1 : ∀ w ∈ u_ws RX1 TX1 4, w ∈ cz_T := fun w h => List.mem_filter.mpr ((by decide +kernel : ∀ w ∈ u_ws RX1 TX1 4, w ∈ lw_tbl ∧ goodWord w = true) w h)
theorem cz_i2 : ∀ w ∈ u_ws RX2 TX2 4, w ∈ cz_T := fun w h => List.mem_filter.mpr ((by decide +kernel : ∀ w ∈ u_ws RX2 TX2 4, w ∈ lw_tbl ∧ goodWord w = true) w h)
theorem cz_i3 : ∀ w ∈ u_ws RX3 TX3 5, w ∈ cz_T := fun w h => List.mem_filter.mpr ((by decide +kernel : ∀ w ∈ u_ws RX3 TX3 5, w ∈ lw_tbl ∧ goodWord w = true) w h)
theorem cz_i4 : ∀ w ∈ u_ws RX4 TX4 2, w ∈ cz_T := fun w h => List.mem_filter.mpr ((by decide +kernel : ∀ w ∈ u_ws RX4 TX4 2, w ∈ lw_tbl ∧ goodWord w = true) w h)
theorem cz_i5 : ∀ w ∈ u_ws RX5 TX5 12, w ∈ cz_T := fun w h => List.mem_filter.mpr ((by decide +kernel : ∀ w ∈ u_ws RX5 TX5 12, w ∈ lw_tbl ∧ goodWord w = true) w h)
theorem cz_i6 : ∀ w ∈ u_ws RX6 TX6 4, w ∈ cz_T := fun w h => List.mem_filter.mpr ((by decide +kernel : ∀ w ∈ u_ws RX6 TX6 4, w ∈ lw_tbl ∧ goodWord w = true) w h)
theorem cz_i7 : ∀ w ∈ u_ws RX7 TX7 17, w ∈ cz_T := fun w h => List.mem_filter.mpr ((by decide +kernel : ∀ w ∈ u_ws RX7 TX7 17, w ∈ lw_tbl ∧ goodWord w = true) w h)
theorem cz_i8 : ∀ w ∈ u_ws RX8 TX8 12, w ∈ cz_T := fun w h => List.mem_filter.mpr ((by decide +kernel : ∀ w ∈ u_ws RX8 TX8 12, w ∈ lw_tbl ∧ goodWord w = true) w h)
theorem cz_i9 : ∀ w ∈ u_ws RX9 TX9 6, w ∈ cz_T := fun w h => List.mem_filter.mpr ((by decide +kernel : ∀ w ∈ u_ws RX9 TX9 6, w ∈ lw_tbl ∧ goodWord w = true) w h)
theorem cz_i10 : ∀ w ∈ u_ws RX10 TX10 18, w ∈ cz_T := fun w h => List.mem_filter.mpr ((by decide +kernel : ∀ w ∈ u_ws RX10 TX10 18, w ∈ lw_tbl ∧ goodWord w = true) w h)
theorem cz_i11 : ∀ w ∈ u_ws RX11 TX11 33, w ∈ cz_T := fun w h => List.mem_filter.mpr ((by decide +kernel : ∀ w ∈ u_ws RX11 TX11 33, w ∈ lw_tbl ∧ goodWord w = true) w h)
theorem cz_i12 : ∀ w ∈ u_ws RX12 TX12 36, w ∈ cz_T := fun w h => List.mem_filter.mpr ((by decide +kernel : ∀ w ∈ u_ws RX12 TX12 36, w ∈ lw_tbl ∧ goodWord w = true) w h)
def cz_ck (ci j kd : Nat) : Bool := match kd with
  | 0 => decide (cz_tf ci j = .int)
  | 1 => match cz_tf ci j with
    | .object _ => true
    | .array _ => true
    | _ => false
  | 2 => decide (cz_tf ci j = .long)
  | _ => decide (kd = 3 ∧ cz_tf ci j = .boolean)
theorem cz_cls {ci : Nat} (h : ci < 13) : vwCl[ci]? = some (cz_on ci, cz_TT ci, cz_nf ci) ∧ (∀ w ∈ u_ws (cz_on ci) (cz_TT ci) (cz_nf ci), w ∈ cz_T) ∧ (∀ k, k < cz_nf ci → parseFieldDescriptor ((cz_TT ci) k).2.2.1 = some (cz_tf ci k)) ∧ (∀ a, a < cz_nf ci → ∀ b, b < cz_nf ci → a ≠ b → ((cz_TT ci) a).2.1 ≠ ((cz_TT ci) b).2.1) ∧ (cz_fk ci).length = cz_nf ci ∧ ((List.range (cz_nf ci)).all (fun j => cz_ck ci j ((cz_fk ci).getD j 9))) = true := match ci, h with
  | 0, _ => ⟨rfl, cz_i0, tyX0_ok, nmX0, rfl, by decide +kernel⟩
  | 1, _ => ⟨rfl, cz_i1, tyX1_ok, nmX1, rfl, by decide +kernel⟩
  | 2, _ => ⟨rfl, cz_i2, tyX2_ok, nmX2, rfl, by decide +kernel⟩
  | 3, _ => ⟨rfl, cz_i3, tyX3_ok, nmX3, rfl, by decide +kernel⟩
  | 4, _ => ⟨rfl, cz_i4, tyX4_ok, nmX4, rfl, by decide +kernel⟩
  | 5, _ => ⟨rfl, cz_i5, tyX5_ok, nmX5, rfl, by decide +kernel⟩
  | 6, _ => ⟨rfl, cz_i6, tyX6_ok, nmX6, rfl, by decide +kernel⟩
  | 7, _ => ⟨rfl, cz_i7, tyX7_ok, nmX7, rfl, by decide +kernel⟩
  | 8, _ => ⟨rfl, cz_i8, tyX8_ok, nmX8, rfl, by decide +kernel⟩
  | 9, _ => ⟨rfl, cz_i9, tyX9_ok, nmX9, rfl, by decide +kernel⟩
  | 10, _ => ⟨rfl, cz_i10, tyX10_ok, nmX10, rfl, by decide +kernel⟩
  | 11, _ => ⟨rfl, cz_i11, tyX11_ok, nmX11, rfl, by decide +kernel⟩
  | 12, _ => ⟨rfl, cz_i12, tyX12_ok, nmX12, rfl, by decide +kernel⟩
  | ci + 13, h => absurd h (by omega)
theorem cz_kd {ci j kd : Nat} (h : ci < 13) (hj : j < cz_nf ci) (hk : (cz_fk ci)[j]? = some kd) : cz_ck ci j kd = true := by
  have h1 := List.all_eq_true.mp (cz_cls h).2.2.2.2.2 j (List.mem_range.mpr hj)
  rw [List.getD_eq_getElem?_getD, hk] at h1
  exact h1
theorem cz_okR {ci j : Nat} {v : Value} (h : cz_ck ci j 1 = true) (hv : v = .null ∨ ∃ a, v = .ref a) : narrow (cz_tf ci j) v = v ∧ fits (cz_tf ci j) v = true := by
  unfold cz_ck at h
  simp only at h
  split at h
  · rename_i q hq
    rcases hv with rfl | ⟨a, rfl⟩ <;> rw [hq] <;> exact ⟨rfl, rfl⟩
  · rename_i q hq
    rcases hv with rfl | ⟨a, rfl⟩ <;> rw [hq] <;> exact ⟨rfl, rfl⟩
  · cases h
theorem cz_okI {ci j : Nat} (x : Int32) (h : cz_ck ci j 0 = true) : narrow (cz_tf ci j) (.int x) = .int x ∧ fits (cz_tf ci j) (.int x) = true := by
  have h : cz_tf ci j = .int := by simpa [cz_ck] using h
  rw [h]; exact ⟨rfl, rfl⟩
theorem cz_okL {ci j : Nat} (x : Int64) (h : cz_ck ci j 2 = true) : narrow (cz_tf ci j) (.long x) = .long x ∧ fits (cz_tf ci j) (.long x) = true := by
  have h : cz_tf ci j = .long := by simpa [cz_ck] using h
  rw [h]; exact ⟨rfl, rfl⟩
theorem cz_okZ {ci j : Nat} {x : Int32} (h : cz_ck ci j 3 = true) (hx : x = 0 ∨ x = 1) : narrow (cz_tf ci j) (.int x) = .int x ∧ fits (cz_tf ci j) (.int x) = true := by
  have h : cz_tf ci j = .boolean := by simpa [cz_ck] using h
  rw [h]; rcases hx with rfl | rfl <;> exact ⟨by decide +kernel, by decide +kernel⟩
theorem cz_fs_at {g : cz_G} {I : cz_I} {R : cz_R} {L : cz_L} {k ci j kd : Nat} (h : (cz_fk ci)[j]? = some kd) : (cz_fs g I R L k ci)[j]? = some (cz_fv g I R L k j kd) := by
  rw [cz_fs, List.getElem?_mapIdx, h]; rfl
section CzW
variable {p : Program} {l : Launch} {e : Env} {s : State} {m : MethodId} {args : Array Value} {below : List Frame} {meth : Method} {c : Code} {A : Nat → Prop} {Z : State → Prop} {g : cz_G} {M : cz_M} {H : Heap} {locs : List Loc} {arr : Array Slot} {pc cn : Nat} {K N : Nat → Nat} {I I' : cz_I} {R R' : cz_R} {L L' : cz_L} {n w : Nat} {rest : List Value}
theorem cz_getf {idx ci j kd k : Nat} {b : Bool} (hC : cz_ok (p, l, e, s, m, args, below, meth, c, A, Z, g) M) (hf : cz_fl M.1 idx = some (ci, j, kd, b)) (hk : K k = ci) (hR : cz_At g A cn K N I R L H) (hd : decode (cz_cc M) pc = .ok (.getfield idx, 3))
    (kk : W p l e (cz_rm M) s m args below meth c H locs n w Z (F0 m (pc + 3) arr (cz_fv g I R L k j kd :: rest))) : W p l e (cz_rm M) s m args below meth c H locs n w Z (F0 m pc arr (.ref (cz_al g k) :: rest)) := by
  obtain ⟨hx, hb, hml, hown, hts, hr, hlocks, hin, hKK, hA⟩ := hC
  obtain ⟨h1, h2, h3, h4, h5⟩ := cz_fl_spec hf
  obtain ⟨c1, c2, -⟩ := cz_cls h1
  have he := cz_getO (g := g) (N := N) (I := I) (R := R) (L := L) hR.2.2.2 hk h1
  cases b with
  | false => exact va_get (D := g.1) hx hb hts c2 hown hKK.1 hR.1 k he c1 j h2 (hts _ (h4 rfl)) (fun _ q => q) (cz_fs_at h3) hd kk
  | true =>
    obtain ⟨host, h6⟩ := h5 rfl
    exact va_getN (D := g.1) (host := host) hx hb hts c2 hown hKK.1 hR.1 k he c1 j h2 (va_Nw.use rfl (hKK.2.1 _ h6)) (fun _ q => q) (cz_fs_at h3) hd kk
/-- the picture behind a store into the cell k -/
theorem cz_stored {k kd : Nat} {H1 : Heap} {e0 : va_E} (hR : cz_At g A cn K N I R L H) (hk : K k = kd) (h99 : kd ≠ 99) (hce : cz_ce g K N I' R' L' k = e0) (hat : va_at g.1 vwCl (cz_al g k, e0) H1) (hz : H1.size = H.size) (oq : ∀ q : Nat, q ≠ cz_al g k → H1[q]? = H[q]?) (ho : ∀ a : Nat, a ≠ k → I' a = I a ∧ R' a = R a ∧ L' a = L a) : cz_At g A cn K N I' R' L' H1 := by
  have hlt := cz_lt hR.2.2.2 hk h99
  have hg := cz_get (g := g) (K := K) (N := N) (I := I) (R := R) (L := L) hlt
  have hs := cz_set (g := g) (c := cn) (K := K) (N := N) (I := I) (R := R) (L := L) hlt hce (fun j hj => cz_ceI (ho j hj).1 (ho j hj).2.1 (ho j hj).2.2)
  refine ⟨?_, ?_, fun i => by rw [hz]; exact hR.2.2.1 i, hR.2.2.2⟩
  · rw [← hs]; exact hR.1.set hR.2.1 hg hat oq
  · rw [← hs]; exact hR.2.1.set hg
theorem cz_putf {idx ci j kd k : Nat} {b : Bool} {v : Value} (hC : cz_ok (p, l, e, s, m, args, below, meth, c, A, Z, g) M) (hf : cz_fl M.1 idx = some (ci, j, kd, b)) (hk : K k = ci) (hR : cz_At g A cn K N I R L H) (hS : va_S A s.heap H locs) (hd : decode (cz_cc M) pc = .ok (.putfield idx, 3))
    (hw : (cz_TT ci j).2.2.2 = false ∨ ((cz_nm M).name = "<init>" ∧ b = false ∧ (cz_TT ci j).1 = cz_on M.1)) (hn : narrow (cz_tf ci j) v = v) (hfit : fits (cz_tf ci j) v = true) (hnew : (cz_fs g I R L k ci).set j v = cz_fs g I' R' L' k ci) (ho : ∀ a : Nat, a ≠ k → I' a = I a ∧ R' a = R a ∧ L' a = L a)
    (kk : ∀ (H1 : Heap) (locs1 : List Loc), cz_At g A cn K N I' R' L' H1 → va_S A s.heap H1 locs1 → W p l e (cz_rm M) s m args below meth c H1 locs1 n w Z (F0 m (pc + 3) arr rest)) : W p l e (cz_rm M) s m args below meth c H locs n w Z (F0 m pc arr (v :: .ref (cz_al g k) :: rest)) := by
  obtain ⟨hx, hb, hml, hown, hts, hr, hlocks, hin, hKK, hA⟩ := hC
  obtain ⟨h1, h2, h3, h4, h5⟩ := cz_fl_spec hf
  obtain ⟨c1, c2, c3, c4, c5, c6⟩ := cz_cls h1
  have he := cz_getO (g := g) (N := N) (I := I) (R := R) (L := L) hR.2.2.2 hk h1
  have hap := va_apart (own := cz_on M.1) hts c2 (cz_tf ci) c3 c4 hKK.1 c1
  obtain ⟨r, q0, cell, q1, q2, q3, q4⟩ := hR.1 k _ he
  have hr2 : r = (cz_on ci, cz_TT ci, cz_nf ci) := Option.some.inj (q0.symm.trans c1)
  subst hr2
  obtain ⟨hSl, hfc, kC, hkC, hkind⟩ := hKK.1.1 ci _ c1
  obtain ⟨cf, kf, fi, f, hi, hsl⟩ := hSl j h2
  have hlay := u_lays hts c2 h2
  have hst := (u_facts hfc hkC hlay hi).1
  have hd0 := c3 j h2
  have h6 := u_fits hfc hkC hkind hlay hi hd0 hn hfit
  have hlen : j < (cz_fs g I R L k ci).length := by rw [cz_fs, List.length_mapIdx, c5]; exact h2
  have fin : ∀ (H' : Heap), H'[cz_al g k]? = some (cell.setSlot f.slot v) → H'.size = H.size → (∀ q, q ≠ cz_al g k → H'[q]? = H[q]?) → cz_At g A cn K N I' R' L' H' ∧ va_S A s.heap H' (locs ++ [⟨cz_al g k, f.slot⟩]) := by
    intro H' e1 e2 e3
    refine ⟨cz_stored hR hk (by omega) (e0 := .inr (ci, (cz_fs g I R L k ci).set j v)) (by rw [cz_ce, hk, if_pos h1, hnew]) ⟨_, c1, ?_⟩ e2 e3 ho, hS.put e2 e3 (hR.2.1.2 k _ he)⟩
    rw [hsl] at e1
    exact t_OB.to (V := updV (vp_V (cz_fs g I R L k ci)) j v) ⟨_, e1, q2, q3, t_set q4 hap h2 v⟩ (fun i _ => vp_updV_set hlen v i)
  have hlt : f.slot < cell.slots.size := by rw [hsl]; exact k2_hasslot (q4 j h2)
  cases hfi : (cz_TT ci j).2.2.2 with
  | true =>
    obtain ⟨g1, rfl, g3⟩ : (cz_nm M).name = "<init>" ∧ b = false ∧ (cz_TT ci j).1 = cz_on M.1 := hw.resolve_left (by rw [hfi]; decide)
    have hlay2 := hts _ (c2 _ (u_in_lay h2))
    unfold u_lay at hlay2
    rw [if_pos hfi] at hlay2
    have hcf : m.cls = cf := by
      obtain ⟨_, _, c', _, _, _, -, -, hf', -, -, -, hown2, -⟩ := Cond.laysFinal_spec hlay2
      have e1 : c' = cf := by have := hi.symm.trans hf'; simp at this; exact this.1.symm
      rw [g3] at hown2
      rw [← e1]; exact Option.some.inj (hown.symm.trans hown2)
    refine W.putFinK hx hb hown (hts _ (h4 rfl)) hi hst hcf (hin g1) (by rw [q2]; exact h6) q1 q3 hlt rfl rfl hd fun H' e1 e2 e3 => ?_
    obtain ⟨f1, f2⟩ := fin H' e1 e2 e3
    exact kk H' _ f1 f2
  | false =>
    have hlay2 := hts _ (c2 _ (u_in_lay h2))
    unfold u_lay at hlay2
    rw [if_neg (by rw [hfi]; decide)] at hlay2
    have h7 := u_store hfc hkC hkind hlay2 hi hd0 hn hfit
    cases b with
    | false =>
      refine W.putK hx hb (f := f) ⟨hown, hts _ (h4 rfl), ⟨_, _, _, hi⟩, hst⟩ (by rw [q2]; exact h7) q1 q3 hlt rfl rfl hd fun H' e1 e2 e3 => ?_
      obtain ⟨f1, f2⟩ := fin H' e1 e2 e3
      exact kk H' _ f1 f2
    | true =>
      obtain ⟨host, h8⟩ := h5 rfl
      refine va_WputK hx hb (f := f) hown (va_Nw.use rfl (hKK.2.1 _ h8)) hi hst (by rw [q2]; exact h7) q1 q3 hlt rfl rfl hd fun H' e1 e2 e3 => ?_
      obtain ⟨f1, f2⟩ := fin H' e1 e2 e3
      exact kk H' _ f1 f2
/-- an array's element is stored -/
theorem cz_asted {k kd : Nat} {H1 : Heap} (hR : cz_At g A cn K N I R L H) (hk : K k = kd) (h1 : 13 ≤ kd) (h2 : kd < 22) (he : H1[cz_al g k]? = some (vp_cell (g.2.1 kd) (N k, cz_ac g I' R' L' k kd))) (hz : H1.size = H.size) (oq : ∀ q : Nat, q ≠ cz_al g k → H1[q]? = H[q]?) (ho : ∀ a : Nat, a ≠ k → I' a = I a ∧ R' a = R a ∧ L' a = L a) : cz_At g A cn K N I' R' L' H1 :=
  cz_stored hR hk (by omega) (e0 := .inl (g.2.1 kd, N k, cz_ac g I' R' L' k kd)) (by rw [cz_ce, hk, if_neg (by omega)]) he hz oq ho
theorem cz_pushed {kd len : Nat} {e0 : va_E} {K' N' : Nat → Nat} {H1 : Heap} (hR : cz_At g A cn K N I R L H) (hS : va_S A s.heap H locs) (hA : ∀ q : Nat, s.heap.size ≤ q → A q) (hK' : K' = va_up K cn kd) (hN' : N' = va_up N cn len) (hI : ∀ a, a < cn → I' a = I a) (hRR : ∀ a, a < cn → R' a = R a) (hL : ∀ a, a < cn → L' a = L a)
    (hce : cz_ce g K' N' I' R' L' cn = e0) (hat : va_at g.1 vwCl (H.size, e0) H1) (hz : H1.size = H.size + 1) (oq : ∀ q : Nat, q < H.size → H1[q]? = H[q]?) : cz_At g A (cn + 1) K' N' I' R' L' H1 ∧ va_S A s.heap H1 locs := by
  have ha : cz_al g cn = H.size := by have := hR.2.2.1 0; simpa using this
  have hp := cz_push (g := g) (c := cn) (K := K) (N := N) (I := I) (R := R) (L := L) hce (fun j hj => by
    have e1 : K' j = K j := by rw [hK', va_up, if_neg (by omega)]
    have e2 : N' j = N j := by rw [hN', va_up, if_neg (by omega)]
    simp only [cz_ce, cz_fs, cz_fv, cz_ac, e1, e2, hI j hj, hRR j hj, hL j hj])
  have hk : ∀ (k : Nat) (x : Nat × va_E), (cz_ws g cn K N I R L)[k]? = some x → H1[x.1]? = H[x.1]? := fun k x hx => oq x.1 ((hR.1 k x hx).lt)
  refine ⟨⟨?_, ?_, fun i => ?_, fun k hk2 => ?_⟩, Nat.le_trans hS.1 (by omega), fun x h1 h2 => (oq x (Nat.lt_of_lt_of_le h1 hS.1)).trans (hS.2.1 x h1 h2), hS.2.2⟩
  · rw [← hp]
    refine (hR.1.kept hk).app (fun k x hx => ?_)
    have hz1 : k < 1 := (List.getElem?_eq_some_iff.mp hx).1
    rw [show k = 0 by omega] at hx
    cases hx
    rw [ha]
    exact hat
  · rw [← hp, ha]
    exact hR.2.1.push hR.1 rfl (hA _ hS.1)
  · have := hR.2.2.1 (i + 1)
    rw [hz, show cn + 1 + i = cn + (i + 1) by omega, this]; omega
  · rw [hK', va_up, if_neg (by omega)]
    exact hR.2.2.2 k (by omega)
end CzW
end
section
/-! ===== locals ===== -/
def cz_ll (g : cz_G) (M : cz_M) (ls : Nat → Option Value) : List (Nat × Value) := (List.range (cz_nL M)).filterMap (fun i => (ls i).map (fun v => (i, cz_rn g v)))
theorem cz_ll_mem {g : cz_G} {M : cz_M} {ls : Nat → Option Value} {i : Nat} {v : Value} (hi : i < cz_nL M) (h : ls i = some v) : (i, cz_rn g v) ∈ cz_ll g M ls := by
  refine List.mem_filterMap.mpr ⟨i, List.mem_range.mpr hi, ?_⟩
  rw [h]; rfl
theorem cz_has {g : cz_G} {M : cz_M} {arr : Array Slot} {ls : Nat → Option Value} (h : cz_lc g M arr ls) : lv_has arr (cz_nL M) (cz_ll g M ls) := by
  refine ⟨h.1, h.2.1, fun q hq => ?_⟩
  obtain ⟨i, -, hi⟩ := List.mem_filterMap.mp hq
  cases hv : ls i with
  | none => rw [hv] at hi; cases hi
  | some v =>
    rw [hv] at hi
    cases hi
    exact h.2.2.1 i v hv
theorem cz_lc_lt {g : cz_G} {M : cz_M} {arr : Array Slot} {ls : Nat → Option Value} (h : cz_lc g M arr ls) {i : Nat} {v : Value} (hv : ls i = some v) : i < cz_nL M := by
  rw [← h.1]; exact lv_lt (h.2.2.1 i v hv)
theorem cz_back1 {g : cz_G} {M : cz_M} {arr arr' : Array Slot} {ls : Nat → Option Value} {i : Nat} {v : Value} (h : cz_lc g M arr ls) (hc : v.category = 1) (hg : ∀ j ∈ cz_lg M, j + 1 ≠ i) (h' : lv_has arr' (cz_nL M) ((i, cz_rn g v) :: (cz_ll g M ls).filter (fun q => !(q.1 == i) && !(q.1 + 1 == i && q.2.category == 2)))) : cz_lc g M arr' (va_up ls i (some v)) := by
  refine ⟨h'.1, h'.2.1, fun j u hj => ?_, fun j u hj hu => ?_⟩
  · by_cases hji : j = i
    · subst hji
      simp only [va_up, if_true, Option.some.injEq] at hj
      subst hj
      exact h'.2.2 _ (List.mem_cons_self)
    · simp only [va_up, if_neg hji] at hj
      refine h'.2.2 (j, cz_rn g u) (List.mem_cons_of_mem _ (List.mem_filter.mpr ⟨cz_ll_mem (cz_lc_lt h hj) hj, ?_⟩))
      have h1 : ¬ (j + 1 = i ∧ u.category = 2) := fun q => hg j (h.2.2.2 j u hj q.2) q.1
      by_cases hq : j + 1 = i
      · have h2 : ¬ u.category = 2 := fun z => h1 ⟨hq, z⟩
        simp [hji, cz_rn_cat, h2]
      · simp [hji, hq]
  · by_cases hji : j = i
    · subst hji
      simp only [va_up, if_true, Option.some.injEq] at hj
      subst hj
      omega
    · simp only [va_up, if_neg hji] at hj
      exact h.2.2.2 j u hj hu
theorem cz_back2 {g : cz_G} {M : cz_M} {arr arr' : Array Slot} {ls : Nat → Option Value} {i : Nat} {x : Int64} (h : cz_lc g M arr ls) (hi : i ∈ cz_lg M) (hg : ∀ j ∈ cz_lg M, j + 1 ≠ i) (h' : lv_has arr' (cz_nL M) ((i, Value.long x) :: (cz_ll g M ls).filter (fun q => !(q.1 == i) && (!(q.1 == i + 1) && !(q.1 + 1 == i && q.2.category == 2))))) : cz_lc g M arr' (va_up (va_up ls i (some (.long x))) (i + 1) none) := by
  refine ⟨h'.1, h'.2.1, fun j u hj => ?_, fun j u hj hu => ?_⟩
  · by_cases hj1 : j = i + 1
    · subst hj1; simp [va_up] at hj
    · rw [va_up, if_neg hj1] at hj
      by_cases hji : j = i
      · subst hji
        simp only [va_up, if_true, Option.some.injEq] at hj
        subst hj
        exact h'.2.2 _ (List.mem_cons_self)
      · simp only [va_up, if_neg hji] at hj
        refine h'.2.2 (j, cz_rn g u) (List.mem_cons_of_mem _ (List.mem_filter.mpr ⟨cz_ll_mem (cz_lc_lt h hj) hj, ?_⟩))
        have h1 : ¬ (j + 1 = i ∧ u.category = 2) := fun q => hg j (h.2.2.2 j u hj q.2) q.1
        by_cases hq : j + 1 = i
        · have h2 : ¬ u.category = 2 := fun z => h1 ⟨hq, z⟩
          simp [hji, hj1, cz_rn_cat, h2]
        · simp [hji, hj1, hq]
  · by_cases hj1 : j = i + 1
    · subst hj1; simp [va_up] at hj
    · rw [va_up, if_neg hj1] at hj
      by_cases hji : j = i
      · subst hji; exact hi
      · simp only [va_up, if_neg hji] at hj
        exact h.2.2.2 j u hj hu
section CzRules2
variable {X : cz_X} {M : cz_M} {pc : Nat} {ls : Nat → Option Value} {st : List Value} {cn : Nat} {K N : Nat → Nat} {I : cz_I} {R : cz_R} {L : cz_L} {n w : Nat}
theorem tr_istore_n {i : Fin 4} {x : Int32} (hd : decode (cz_cc M) pc = .ok (.istore_n i, 1)) (hi : (i : Nat) < cz_nL M) (hg : ∀ j ∈ cz_lg M, j + 1 ≠ (i : Nat)) (k : Tr X M (pc + 1) (va_up ls i (some (.int x))) st cn K N I R L n w) : Tr X M pc ls (.int x :: st) cn K N I R L n w := by
  obtain ⟨p, l, e, s, m, args, below, meth, c, A, Z, g⟩ := X
  intro hC H locs arr hR hS hl
  exact lv_istore_n hC.1 hC.2.1 hd rfl (cz_has hl) hi rfl (fun arr' hl' => k hC H locs arr' hR hS (cz_back1 hl rfl hg hl'))
theorem tr_istore {i : Nat} {x : Int32} (hd : decode (cz_cc M) pc = .ok (.istore i, 2)) (hi : (i : Nat) < cz_nL M) (hg : ∀ j ∈ cz_lg M, j + 1 ≠ (i : Nat)) (k : Tr X M (pc + 2) (va_up ls i (some (.int x))) st cn K N I R L n w) : Tr X M pc ls (.int x :: st) cn K N I R L n w := by
  obtain ⟨p, l, e, s, m, args, below, meth, c, A, Z, g⟩ := X
  intro hC H locs arr hR hS hl
  exact lv_istore hC.1 hC.2.1 hd (cz_has hl) hi rfl (fun arr' hl' => k hC H locs arr' hR hS (cz_back1 hl rfl hg hl'))
theorem tr_astore_n {i : Fin 4} {x : Nat} (hd : decode (cz_cc M) pc = .ok (.astore_n i, 1)) (hi : (i : Nat) < cz_nL M) (hg : ∀ j ∈ cz_lg M, j + 1 ≠ (i : Nat)) (k : Tr X M (pc + 1) (va_up ls i (some (.ref x))) st cn K N I R L n w) : Tr X M pc ls (.ref x :: st) cn K N I R L n w := by
  obtain ⟨p, l, e, s, m, args, below, meth, c, A, Z, g⟩ := X
  intro hC H locs arr hR hS hl
  exact lv_astore_n hC.1 hC.2.1 hd rfl (cz_has hl) hi rfl (fun arr' hl' => k hC H locs arr' hR hS (cz_back1 hl rfl hg hl'))
theorem tr_astore {i : Nat} {x : Nat} (hd : decode (cz_cc M) pc = .ok (.astore i, 2)) (hi : (i : Nat) < cz_nL M) (hg : ∀ j ∈ cz_lg M, j + 1 ≠ (i : Nat)) (k : Tr X M (pc + 2) (va_up ls i (some (.ref x))) st cn K N I R L n w) : Tr X M pc ls (.ref x :: st) cn K N I R L n w := by
  obtain ⟨p, l, e, s, m, args, below, meth, c, A, Z, g⟩ := X
  intro hC H locs arr hR hS hl
  exact lv_astore hC.1 hC.2.1 hd (cz_has hl) hi rfl (fun arr' hl' => k hC H locs arr' hR hS (cz_back1 hl rfl hg hl'))
theorem tr_lstore_n {i : Fin 4} {x : Int64} (hd : decode (cz_cc M) pc = .ok (.lstore_n i, 1)) (hi : (i : Nat) + 1 < cz_nL M) (hm : (i : Nat) ∈ cz_lg M) (hg : ∀ j ∈ cz_lg M, j + 1 ≠ (i : Nat)) (k : Tr X M (pc + 1) (va_up (va_up ls i (some (.long x))) (i + 1) none) st cn K N I R L n w) : Tr X M pc ls (.long x :: st) cn K N I R L n w := by
  obtain ⟨p, l, e, s, m, args, below, meth, c, A, Z, g⟩ := X
  intro hC H locs arr hR hS hl
  exact lv_lstore_n hC.1 hC.2.1 hd rfl (cz_has hl) hi rfl (fun arr' hl' => k hC H locs arr' hR hS (cz_back2 hl hm hg hl'))
theorem tr_iinc {i : Nat} {z : Int} {x : Int32} (hd : decode (cz_cc M) pc = .ok (.iinc i z, 3)) (hv : ls i = some (.int x)) (hg : ∀ j ∈ cz_lg M, j + 1 ≠ i) (k : Tr X M (pc + 3) (va_up ls i (some (.int (x + Int32.ofInt z)))) st cn K N I R L n w) : Tr X M pc ls st cn K N I R L n w := by
  obtain ⟨p, l, e, s, m, args, below, meth, c, A, Z, g⟩ := X
  intro hC H locs arr hR hS hl
  obtain ⟨q, hq⟩ := List.getElem?_of_mem (cz_ll_mem (g := g) (cz_lc_lt hl hv) hv)
  exact lv_iinc hC.1 hC.2.1 hd (cz_has hl) hq rfl (cz_lc_lt hl hv) rfl (fun arr' hl' => k hC H locs arr' hR hS (cz_back1 (v := .int _) hl rfl hg hl'))
theorem cz_fv0 {g : cz_G} {k j : Nat} : cz_fv g I R L k j 0 = .int (I k j) := rfl
theorem cz_fv3 {g : cz_G} {k j : Nat} : cz_fv g I R L k j 3 = .int (I k j) := rfl
theorem cz_fv2 {g : cz_G} {k j : Nat} : cz_fv g I R L k j 2 = .long (L k j) := rfl
theorem cz_fv1 {g : cz_G} {k j x : Nat} (h : R k j = some x) : cz_fv g I R L k j 1 = .ref (cz_al g x) := by rw [cz_fv, if_pos rfl, h]; rfl
theorem cz_fv1n {g : cz_G} {k j : Nat} (h : R k j = none) : cz_fv g I R L k j 1 = .null := by rw [cz_fv, if_pos rfl, h]; rfl
theorem tr_getI {idx ci j k : Nat} {b : Bool} (hd : decode (cz_cc M) pc = .ok (.getfield idx, 3)) (hf : cz_fl M.1 idx = some (ci, j, 0, b)) (hk : K k = ci) (kk : Tr X M (pc + 3) ls (.int (I k j) :: st) cn K N I R L n w) : Tr X M pc ls (.ref k :: st) cn K N I R L n w := by
  obtain ⟨p, l, e, s, m, args, below, meth, c, A, Z, g⟩ := X
  intro hC H locs arr hR hS hl
  refine cz_getf hC hf hk hR hd ?_
  rw [cz_fv0]
  exact kk hC H locs arr hR hS hl
theorem tr_getZ {idx ci j k : Nat} {b : Bool} (hd : decode (cz_cc M) pc = .ok (.getfield idx, 3)) (hf : cz_fl M.1 idx = some (ci, j, 3, b)) (hk : K k = ci) (kk : Tr X M (pc + 3) ls (.int (I k j) :: st) cn K N I R L n w) : Tr X M pc ls (.ref k :: st) cn K N I R L n w := by
  obtain ⟨p, l, e, s, m, args, below, meth, c, A, Z, g⟩ := X
  intro hC H locs arr hR hS hl
  refine cz_getf hC hf hk hR hd ?_
  rw [cz_fv3]
  exact kk hC H locs arr hR hS hl
theorem tr_getL {idx ci j k : Nat} {b : Bool} (hd : decode (cz_cc M) pc = .ok (.getfield idx, 3)) (hf : cz_fl M.1 idx = some (ci, j, 2, b)) (hk : K k = ci) (kk : Tr X M (pc + 3) ls (.long (L k j) :: st) cn K N I R L n w) : Tr X M pc ls (.ref k :: st) cn K N I R L n w := by
  obtain ⟨p, l, e, s, m, args, below, meth, c, A, Z, g⟩ := X
  intro hC H locs arr hR hS hl
  refine cz_getf hC hf hk hR hd ?_
  rw [cz_fv2]
  exact kk hC H locs arr hR hS hl
theorem tr_getR {idx ci j k : Nat} {b : Bool} {x : Nat} (hd : decode (cz_cc M) pc = .ok (.getfield idx, 3)) (hf : cz_fl M.1 idx = some (ci, j, 1, b)) (hk : K k = ci) (hv : R k j = some x) (kk : Tr X M (pc + 3) ls (.ref x :: st) cn K N I R L n w) : Tr X M pc ls (.ref k :: st) cn K N I R L n w := by
  obtain ⟨p, l, e, s, m, args, below, meth, c, A, Z, g⟩ := X
  intro hC H locs arr hR hS hl
  refine cz_getf hC hf hk hR hd ?_
  rw [cz_fv1 hv]
  exact kk hC H locs arr hR hS hl
theorem tr_getN {idx ci j k : Nat} {b : Bool} (hd : decode (cz_cc M) pc = .ok (.getfield idx, 3)) (hf : cz_fl M.1 idx = some (ci, j, 1, b)) (hk : K k = ci) (hv : R k j = none) (kk : Tr X M (pc + 3) ls (.null :: st) cn K N I R L n w) : Tr X M pc ls (.ref k :: st) cn K N I R L n w := by
  obtain ⟨p, l, e, s, m, args, below, meth, c, A, Z, g⟩ := X
  intro hC H locs arr hR hS hl
  refine cz_getf hC hf hk hR hd ?_
  rw [cz_fv1n hv]
  exact kk hC H locs arr hR hS hl
theorem tr_putI {idx ci j k : Nat} {b : Bool} {x : Int32} (hd : decode (cz_cc M) pc = .ok (.putfield idx, 3)) (hf : cz_fl M.1 idx = some (ci, j, 0, b)) (hk : K k = ci) (hw : (cz_TT ci j).2.2.2 = false ∨ ((cz_nm M).name = "<init>" ∧ b = false ∧ (cz_TT ci j).1 = cz_on M.1)) (kk : Tr X M (pc + 3) ls st cn K N (cz_uI I k j x) R L n w) : Tr X M pc ls (.int x :: .ref k :: st) cn K N I R L n w := by
  obtain ⟨p, l, e, s, m, args, below, meth, c, A, Z, g⟩ := X
  intro hC H locs arr hR hS hl
  obtain ⟨h1, h2, h3, -⟩ := cz_fl_spec hf
  have hq := cz_okI x (cz_kd h1 h2 h3)
  exact cz_putf hC hf hk hR hS hd hw hq.1 hq.2 (cz_fsI h3 (by decide) (by decide)) (fun a ha => ⟨cz_uIn ha, rfl, rfl⟩) (fun H1 locs1 hR1 hS1 => kk hC H1 locs1 arr hR1 hS1 hl)
theorem tr_putZ {idx ci j k : Nat} {b : Bool} {x : Int32} (hd : decode (cz_cc M) pc = .ok (.putfield idx, 3)) (hf : cz_fl M.1 idx = some (ci, j, 3, b)) (hk : K k = ci) (hw : (cz_TT ci j).2.2.2 = false ∨ ((cz_nm M).name = "<init>" ∧ b = false ∧ (cz_TT ci j).1 = cz_on M.1)) (hx : x = 0 ∨ x = 1) (kk : Tr X M (pc + 3) ls st cn K N (cz_uI I k j x) R L n w) : Tr X M pc ls (.int x :: .ref k :: st) cn K N I R L n w := by
  obtain ⟨p, l, e, s, m, args, below, meth, c, A, Z, g⟩ := X
  intro hC H locs arr hR hS hl
  obtain ⟨h1, h2, h3, -⟩ := cz_fl_spec hf
  have hq := cz_okZ (cz_kd h1 h2 h3) hx
  exact cz_putf hC hf hk hR hS hd hw hq.1 hq.2 (cz_fsI h3 (by decide) (by decide)) (fun a ha => ⟨cz_uIn ha, rfl, rfl⟩) (fun H1 locs1 hR1 hS1 => kk hC H1 locs1 arr hR1 hS1 hl)
theorem tr_putL {idx ci j k : Nat} {b : Bool} {x : Int64} (hd : decode (cz_cc M) pc = .ok (.putfield idx, 3)) (hf : cz_fl M.1 idx = some (ci, j, 2, b)) (hk : K k = ci) (hw : (cz_TT ci j).2.2.2 = false ∨ ((cz_nm M).name = "<init>" ∧ b = false ∧ (cz_TT ci j).1 = cz_on M.1)) (kk : Tr X M (pc + 3) ls st cn K N I R (cz_uL L k j x) n w) : Tr X M pc ls (.long x :: .ref k :: st) cn K N I R L n w := by
  obtain ⟨p, l, e, s, m, args, below, meth, c, A, Z, g⟩ := X
  intro hC H locs arr hR hS hl
  obtain ⟨h1, h2, h3, -⟩ := cz_fl_spec hf
  have hq := cz_okL x (cz_kd h1 h2 h3)
  exact cz_putf hC hf hk hR hS hd hw hq.1 hq.2 (cz_fsL h3) (fun a ha => ⟨rfl, rfl, cz_uLn ha⟩) (fun H1 locs1 hR1 hS1 => kk hC H1 locs1 arr hR1 hS1 hl)
theorem tr_putR {idx ci j k : Nat} {b : Bool} {x : Nat} (hd : decode (cz_cc M) pc = .ok (.putfield idx, 3)) (hf : cz_fl M.1 idx = some (ci, j, 1, b)) (hk : K k = ci) (hw : (cz_TT ci j).2.2.2 = false ∨ ((cz_nm M).name = "<init>" ∧ b = false ∧ (cz_TT ci j).1 = cz_on M.1)) (kk : Tr X M (pc + 3) ls st cn K N I (cz_uR R k j (some x)) L n w) : Tr X M pc ls (.ref x :: .ref k :: st) cn K N I R L n w := by
  obtain ⟨p, l, e, s, m, args, below, meth, c, A, Z, g⟩ := X
  intro hC H locs arr hR hS hl
  obtain ⟨h1, h2, h3, -⟩ := cz_fl_spec hf
  have hq := cz_okR (v := .ref (cz_al g x)) (cz_kd h1 h2 h3) (Or.inr ⟨_, rfl⟩)
  exact cz_putf hC hf hk hR hS hd hw hq.1 hq.2 (cz_fsR (x := some x) h3) (fun a ha => ⟨rfl, cz_uRn ha, rfl⟩) (fun H1 locs1 hR1 hS1 => kk hC H1 locs1 arr hR1 hS1 hl)
theorem cz_ac13 {g : cz_G} {k : Nat} : cz_ac g I R L k 13 = .inl (I k) := by rw [cz_ac, if_neg (by decide), if_pos (by decide)]
theorem cz_ac14 {g : cz_G} {k : Nat} : cz_ac g I R L k 14 = .inl (I k) := by rw [cz_ac, if_neg (by decide), if_pos (by decide)]
theorem cz_ac16 {g : cz_G} {k : Nat} : cz_ac g I R L k 16 = .inl (I k) := by rw [cz_ac, if_neg (by decide), if_pos (by decide)]
theorem cz_ac15 {g : cz_G} {k : Nat} : cz_ac g I R L k 15 = .inr (.inl (L k)) := by rw [cz_ac, if_pos rfl]
theorem tr_iald {k : Nat} {i : Int32} (hd : decode (cz_cc M) pc = .ok (.iaload, 1)) (hk : K k = 14) (hi : vp_in i (N k)) (kk : Tr X M (pc + 1) ls (.int (I k i.toNatClampNeg) :: st) cn K N I R L n w) : Tr X M pc ls (.int i :: .ref k :: st) cn K N I R L n w := by
  obtain ⟨p, l, e, s, m, args, below, meth, c, A, Z, g⟩ := X
  intro hC H locs arr hR hS hl
  have hg := cz_getA (g := g) (N := N) (I := I) (R := R) (L := L) hR.2.2.2 hk (show 13 ≤ 14 by decide) (by decide)
  rw [cz_ac14] at hg
  exact va_iald (D := g.1) hC.1 hC.2.1 hC.2.2.2.2.2.2.2.2.1.1 hR.1 k (14 - 13) hg (cz_tyat g (kd := 14) (by decide) (by decide)) hi hd (kk hC H locs arr hR hS hl)
theorem tr_bald {k : Nat} {i : Int32} (hd : decode (cz_cc M) pc = .ok (.baload, 1)) (hk : K k = 13) (hi : vp_in i (N k)) (kk : Tr X M (pc + 1) ls (.int (I k i.toNatClampNeg) :: st) cn K N I R L n w) : Tr X M pc ls (.int i :: .ref k :: st) cn K N I R L n w := by
  obtain ⟨p, l, e, s, m, args, below, meth, c, A, Z, g⟩ := X
  intro hC H locs arr hR hS hl
  have hg := cz_getA (g := g) (N := N) (I := I) (R := R) (L := L) hR.2.2.2 hk (show 13 ≤ 13 by decide) (by decide)
  rw [cz_ac13] at hg
  exact va_bald (D := g.1) hC.1 hC.2.1 hC.2.2.2.2.2.2.2.2.1.1 hR.1 k (13 - 13) hg (cz_tyat g (kd := 13) (by decide) (by decide)) hi hd (kk hC H locs arr hR hS hl)
theorem tr_zald {k : Nat} {i : Int32} (hd : decode (cz_cc M) pc = .ok (.baload, 1)) (hk : K k = 16) (hi : vp_in i (N k)) (kk : Tr X M (pc + 1) ls (.int (I k i.toNatClampNeg) :: st) cn K N I R L n w) : Tr X M pc ls (.int i :: .ref k :: st) cn K N I R L n w := by
  obtain ⟨p, l, e, s, m, args, below, meth, c, A, Z, g⟩ := X
  intro hC H locs arr hR hS hl
  have hg := cz_getA (g := g) (N := N) (I := I) (R := R) (L := L) hR.2.2.2 hk (show 13 ≤ 16 by decide) (by decide)
  rw [cz_ac16] at hg
  exact va_zald (D := g.1) hC.1 hC.2.1 hC.2.2.2.2.2.2.2.2.1.1 hR.1 k (16 - 13) hg (cz_tyat g (kd := 16) (by decide) (by decide)) hi hd (kk hC H locs arr hR hS hl)
theorem tr_lald {k : Nat} {i : Int32} (hd : decode (cz_cc M) pc = .ok (.laload, 1)) (hk : K k = 15) (hi : vp_in i (N k)) (kk : Tr X M (pc + 1) ls (.long (L k i.toNatClampNeg) :: st) cn K N I R L n w) : Tr X M pc ls (.int i :: .ref k :: st) cn K N I R L n w := by
  obtain ⟨p, l, e, s, m, args, below, meth, c, A, Z, g⟩ := X
  intro hC H locs arr hR hS hl
  have hg := cz_getA (g := g) (N := N) (I := I) (R := R) (L := L) hR.2.2.2 hk (show 13 ≤ 15 by decide) (by decide)
  rw [cz_ac15] at hg
  exact va_lald (D := g.1) hC.1 hC.2.1 hC.2.2.2.2.2.2.2.2.1.1 hR.1 k (15 - 13) hg (cz_tyat g (kd := 15) (by decide) (by decide)) hi hd (kk hC H locs arr hR hS hl)
theorem cz_tyR {kd : Nat} (h1 : 17 ≤ kd) (h2 : kd < 22) : cz_ty kd = .object (cz_on (cz_el kd)) ∧ cz_el kd < 13 := by
  rcases (show kd = 17 ∨ kd = 18 ∨ kd = 19 ∨ kd = 20 ∨ kd = 21 by omega) with rfl | rfl | rfl | rfl | rfl <;> exact ⟨rfl, by decide⟩
theorem cz_acR {g : cz_G} {k kd : Nat} (h1 : 17 ≤ kd) : cz_ac g I R L k kd = .inr (.inr (.inr (.inr (fun j => (R k j).map (cz_al g))))) := by
  rw [cz_ac, if_neg (by omega), if_neg (by omega)]
theorem tr_aald {k kd x : Nat} {i : Int32} (hd : decode (cz_cc M) pc = .ok (.aaload, 1)) (hk : K k = kd) (h1 : 17 ≤ kd) (h2 : kd < 22) (hi : vp_in i (N k)) (hv : R k i.toNatClampNeg = some x) (kk : Tr X M (pc + 1) ls (.ref x :: st) cn K N I R L n w) : Tr X M pc ls (.int i :: .ref k :: st) cn K N I R L n w := by
  obtain ⟨p, l, e, s, m, args, below, meth, c, A, Z, g⟩ := X
  intro hC H locs arr hR hS hl
  have ht := cz_tyat g (show 13 ≤ kd by omega) h2
  rw [(cz_tyR h1 h2).1] at ht
  have hg := cz_getA (g := g) (N := N) (I := I) (R := R) (L := L) hR.2.2.2 hk (show 13 ≤ kd by omega) h2
  rw [cz_acR h1] at hg
  have hk1 := kk hC H locs arr hR hS hl
  refine va_aldq (D := g.1) hC.1 hC.2.1 hC.2.2.2.2.2.2.2.2.1.1 hR.1 k (kd - 13) hg ht hi hd ?_
  rw [hv]
  exact hk1
theorem tr_alen {k kd : Nat} (hd : decode (cz_cc M) pc = .ok (.arraylength, 1)) (hk : K k = kd) (h1 : 13 ≤ kd) (h2 : kd < 22) (kk : Tr X M (pc + 1) ls (.int (Int32.ofNat (N k)) :: st) cn K N I R L n w) : Tr X M pc ls (.ref k :: st) cn K N I R L n w := by
  obtain ⟨p, l, e, s, m, args, below, meth, c, A, Z, g⟩ := X
  intro hC H locs arr hR hS hl
  exact va_alen (D := g.1) hC.1 hC.2.1 hC.2.2.2.2.2.2.2.2.1.1 hR.1 k (kd - 13) (cz_getA hR.2.2.2 hk h1 h2) (cz_tyat g h1 h2) rfl hd (kk hC H locs arr hR hS hl)
theorem cz_sz {cA : ClassId} {nn : Nat} {f : Nat → Value} {i : Int32} (h : vp_in i nn) : ¬ (i < 0 ∨ (arrV cA nn f).slots.size ≤ i.toNatClampNeg) := by rw [arrV_size]; exact h
theorem tr_iast {k : Nat} {i : Int32} {x : Int32} (hd : decode (cz_cc M) pc = .ok (.iastore, 1)) (hk : K k = 14) (hi : vp_in i (N k)) (kk : Tr X M (pc + 1) ls st cn K N (cz_uI I k i.toNatClampNeg x) R L n w) : Tr X M pc ls (.int x :: .int i :: .ref k :: st) cn K N I R L n w := by
  obtain ⟨p, l, e, s, m, args, below, meth, c, A, Z, g⟩ := X
  intro hC H locs arr hR hS hl
  have hg := cz_getA (g := g) (N := N) (I := I) (R := R) (L := L) hR.2.2.2 hk (show 13 ≤ 14 by decide) (by decide)
  have hty := (hC.2.2.2.2.2.2.2.2.1.1.2 (14 - 13) _ (cz_tyat g (show 13 ≤ 14 by decide) (by decide))).1 (N k) (fun j => .int (I k j))
  have hcell : H[cz_al g k]? = some (arrV (g.2.1 14) (N k) (fun j => .int (I k j))) := by
    have hh : va_at g.1 vwCl (cz_al g k, .inl (g.2.1 14, N k, cz_ac g I R L k 14)) H := hR.1 k _ hg
    rw [cz_ac14] at hh
    exact hh
  refine W.iast hC.1 hC.2.1 hcell hty (fun q => by cases q) (cz_sz hi) rfl rfl hd fun H1 e1 z oq => ?_
  refine kk hC H1 _ arr (cz_asted hR hk (by decide) (by decide) ?_ z oq (fun a ha => ⟨cz_uIn ha, rfl, rfl⟩)) (hS.put z oq (hR.2.1.2 k _ hg)) hl
  rw [e1, cz_ac14, arrV_store, vp_cell_i]
  congr 2
  funext q
  by_cases hq : q = i.toNatClampNeg
  · subst hq
    simp [updV, cz_uI, upd]
    try rfl
  · simp [updV, cz_uI, upd, hq]
theorem tr_bast {k : Nat} {i : Int32} {x : Int32} (hd : decode (cz_cc M) pc = .ok (.bastore, 1)) (hk : K k = 13) (hi : vp_in i (N k)) (kk : Tr X M (pc + 1) ls st cn K N (cz_uI I k i.toNatClampNeg (vp_nar .byte x)) R L n w) : Tr X M pc ls (.int x :: .int i :: .ref k :: st) cn K N I R L n w := by
  obtain ⟨p, l, e, s, m, args, below, meth, c, A, Z, g⟩ := X
  intro hC H locs arr hR hS hl
  have hg := cz_getA (g := g) (N := N) (I := I) (R := R) (L := L) hR.2.2.2 hk (show 13 ≤ 13 by decide) (by decide)
  have hty := (hC.2.2.2.2.2.2.2.2.1.1.2 (13 - 13) _ (cz_tyat g (show 13 ≤ 13 by decide) (by decide))).1 (N k) (fun j => .int (I k j))
  have hcell : H[cz_al g k]? = some (arrV (g.2.1 13) (N k) (fun j => .int (I k j))) := by
    have hh : va_at g.1 vwCl (cz_al g k, .inl (g.2.1 13, N k, cz_ac g I R L k 13)) H := hR.1 k _ hg
    rw [cz_ac13] at hh
    exact hh
  refine W.bast hC.1 hC.2.1 hcell hty (fun q => by cases q) (cz_sz hi) rfl rfl hd fun H1 e1 z oq => ?_
  refine kk hC H1 _ arr (cz_asted hR hk (by decide) (by decide) ?_ z oq (fun a ha => ⟨cz_uIn ha, rfl, rfl⟩)) (hS.put z oq (hR.2.1.2 k _ hg)) hl
  rw [e1, cz_ac13, arrV_store, vp_cell_i]
  congr 2
  funext q
  by_cases hq : q = i.toNatClampNeg
  · subst hq
    simp [updV, cz_uI, upd, vp_nar]
    try rfl
  · simp [updV, cz_uI, upd, vp_nar, hq]
theorem tr_zast {k : Nat} {i : Int32} {x : Int32} (hd : decode (cz_cc M) pc = .ok (.bastore, 1)) (hk : K k = 16) (hi : vp_in i (N k)) (kk : Tr X M (pc + 1) ls st cn K N (cz_uI I k i.toNatClampNeg (vp_nar .boolean x)) R L n w) : Tr X M pc ls (.int x :: .int i :: .ref k :: st) cn K N I R L n w := by
  obtain ⟨p, l, e, s, m, args, below, meth, c, A, Z, g⟩ := X
  intro hC H locs arr hR hS hl
  have hg := cz_getA (g := g) (N := N) (I := I) (R := R) (L := L) hR.2.2.2 hk (show 13 ≤ 16 by decide) (by decide)
  have hty := (hC.2.2.2.2.2.2.2.2.1.1.2 (16 - 13) _ (cz_tyat g (show 13 ≤ 16 by decide) (by decide))).1 (N k) (fun j => .int (I k j))
  have hcell : H[cz_al g k]? = some (arrV (g.2.1 16) (N k) (fun j => .int (I k j))) := by
    have hh : va_at g.1 vwCl (cz_al g k, .inl (g.2.1 16, N k, cz_ac g I R L k 16)) H := hR.1 k _ hg
    rw [cz_ac16] at hh
    exact hh
  refine W.zast hC.1 hC.2.1 hcell hty (fun q => by cases q) (cz_sz hi) rfl rfl hd fun H1 e1 z oq => ?_
  refine kk hC H1 _ arr (cz_asted hR hk (by decide) (by decide) ?_ z oq (fun a ha => ⟨cz_uIn ha, rfl, rfl⟩)) (hS.put z oq (hR.2.1.2 k _ hg)) hl
  rw [e1, cz_ac16, arrV_store, vp_cell_i]
  congr 2
  funext q
  by_cases hq : q = i.toNatClampNeg
  · subst hq
    simp [updV, cz_uI, upd, vp_nar]
    try rfl
  · simp [updV, cz_uI, upd, vp_nar, hq]
theorem tr_last {k : Nat} {i : Int32} {x : Int64} (hd : decode (cz_cc M) pc = .ok (.lastore, 1)) (hk : K k = 15) (hi : vp_in i (N k)) (kk : Tr X M (pc + 1) ls st cn K N I R (cz_uL L k i.toNatClampNeg x) n w) : Tr X M pc ls (.long x :: .int i :: .ref k :: st) cn K N I R L n w := by
  obtain ⟨p, l, e, s, m, args, below, meth, c, A, Z, g⟩ := X
  intro hC H locs arr hR hS hl
  have hg := cz_getA (g := g) (N := N) (I := I) (R := R) (L := L) hR.2.2.2 hk (show 13 ≤ 15 by decide) (by decide)
  have hty := (hC.2.2.2.2.2.2.2.2.1.1.2 (15 - 13) _ (cz_tyat g (show 13 ≤ 15 by decide) (by decide))).1 (N k) (fun j => .long (L k j))
  have hcell : H[cz_al g k]? = some (arrV (g.2.1 15) (N k) (fun j => .long (L k j))) := by
    have hh : va_at g.1 vwCl (cz_al g k, .inl (g.2.1 15, N k, cz_ac g I R L k 15)) H := hR.1 k _ hg
    rw [cz_ac15] at hh
    exact hh
  refine W.last hC.1 hC.2.1 hcell hty (fun q => by cases q) (cz_sz hi) rfl rfl hd fun H1 e1 z oq => ?_
  refine kk hC H1 _ arr (cz_asted hR hk (by decide) (by decide) ?_ z oq (fun a ha => ⟨rfl, rfl, cz_uLn ha⟩)) (hS.put z oq (hR.2.1.2 k _ hg)) hl
  rw [e1, cz_ac15, arrV_store, vp_cell_l]
  congr 2
  funext q
  by_cases hq : q = i.toNatClampNeg
  · subst hq
    simp [updV, cz_uL, vp_updL]
    try rfl
  · simp [updV, cz_uL, vp_updL, hq]
theorem tr_aast {k kd x : Nat} {i : Int32} (hd : decode (cz_cc M) pc = .ok (.aastore, 1)) (hk : K k = kd) (h1 : 17 ≤ kd) (h2 : kd < 22) (hx : K x = cz_el kd) (hi : vp_in i (N k)) (kk : Tr X M (pc + 1) ls st cn K N I (cz_uR R k i.toNatClampNeg (some x)) L n w) : Tr X M pc ls (.ref x :: .int i :: .ref k :: st) cn K N I R L n w := by
  obtain ⟨p, l, e, s, m, args, below, meth, c, A, Z, g⟩ := X
  intro hC H locs arr hR hS hl
  have hKK := hC.2.2.2.2.2.2.2.2.1.1
  have hlt : i.toNatClampNeg < N k := Nat.not_le.mp fun q => hi (Or.inr q)
  have h0 : ¬ i < 0 := fun q => hi (Or.inl q)
  have hty := cz_tyR h1 h2
  obtain ⟨c1, -⟩ := cz_cls hty.2
  have hg := cz_getA (g := g) (N := N) (I := I) (R := R) (L := L) hR.2.2.2 hk (show 13 ≤ kd by omega) h2
  have hgx := cz_getO (g := g) (N := N) (I := I) (R := R) (L := L) hR.2.2.2 hx hty.2
  obtain ⟨r', hr', cellV, g1, g2, g3, -⟩ := hR.1 x _ hgx
  have hcls := (hKK.1 _ _ c1).2
  have htk := (hKK.2 (kd - 13) _ (cz_tyat g (show 13 ≤ kd by omega) h2)).2
  rw [hty.1] at htk
  obtain ⟨kA, comp, k1, k2, k3, -⟩ := htk
  have hcomp : comp = g.1.1 (cz_el kd) := Option.some.inj (k3.symm.trans hcls.1)
  subst hcomp
  obtain ⟨kC, hkC, -⟩ := hcls.2
  have hcell : H[cz_al g k]? = some (arrV (g.2.1 kd) (N k) (fun j => va_rf ((R k j).map (cz_al g)))) := by
    have hh : va_at g.1 vwCl (cz_al g k, .inl (g.2.1 kd, N k, cz_ac g I R L k kd)) H := hR.1 k _ hg
    rw [cz_acR h1] at hh
    exact hh
  refine W.aast hC.1 hC.2.1 hcell (fun q h => by cases h) (fun h => by cases h) k1 k2 rfl hkC ⟨h0, by rw [arrV_size]; exact hlt⟩ g1 (fun q h => by rw [g3] at h; cases h) (by rw [g2]; exact hkC) (by rw [g2]; exact va_assign hcls) rfl rfl hd fun H1 e1 z oq => ?_
  refine kk hC H1 _ arr (cz_asted hR hk (by omega) h2 ?_ z oq (fun a ha => ⟨rfl, cz_uRn ha, rfl⟩)) (hS.put z oq (hR.2.1.2 k _ hg)) hl
  rw [e1, cz_acR h1, arrV_store, vp_cell_q]
  congr 2
  funext q
  by_cases hq : q = i.toNatClampNeg
  · subst hq
    simp [updV, cz_uR, va_up, va_rf]
  · simp [updV, cz_uR, va_up, hq]
/-! ===== what is made ===== -/
theorem cz_zero {g : cz_G} {k ci j : Nat} (h : ci < 13) (hj : j < cz_nf ci) (h1 : ∀ i, I k i = 0) (h2 : ∀ i, R k i = none) (h3 : ∀ i, L k i = 0) : defaultValue (cz_tf ci j) = vp_V (cz_fs g I R L k ci) j := by
  obtain ⟨-, -, -, -, c5, -⟩ := cz_cls h
  obtain ⟨kd, hkd⟩ : ∃ kd, (cz_fk ci)[j]? = some kd := ⟨_, List.getElem?_eq_getElem (by rw [c5]; exact hj)⟩
  have hck := cz_kd h hj hkd
  rw [vp_V, List.getD_eq_getElem?_getD, cz_fs_at hkd, Option.getD_some]
  rcases (show kd = 0 ∨ kd = 1 ∨ kd = 2 ∨ kd = 3 by
    match kd, hck with
    | 0, _ => exact Or.inl rfl
    | 1, _ => exact Or.inr (Or.inl rfl)
    | 2, _ => exact Or.inr (Or.inr (Or.inl rfl))
    | kd + 3, hck => have : kd + 3 = 3 ∧ cz_tf ci j = .boolean := by simpa [cz_ck] using hck
                     exact Or.inr (Or.inr (Or.inr this.1))) with rfl | rfl | rfl | rfl
  · rw [cz_fv0, h1, show cz_tf ci j = .int by simpa [cz_ck] using hck]; rfl
  · rw [cz_fv1n (h2 j)]
    unfold cz_ck at hck
    simp only at hck
    split at hck
    · rename_i q hq; rw [hq]; rfl
    · rename_i q hq; rw [hq]; rfl
    · cases hck
  · rw [cz_fv2, h3, show cz_tf ci j = .long by simpa [cz_ck] using hck]; rfl
  · rw [cz_fv3, h1, show cz_tf ci j = .boolean by simpa [cz_ck] using hck]; rfl
theorem tr_new {idx ci : Nat} (hd : decode (cz_cc M) pc = .ok (.new idx, 3)) (hci : ci < 13) (hl1 : Cond.classLink (cz_on M.1) idx (cz_on ci) ∈ cz_T) (hl2 : Cond.instantiable (cz_on ci) (cz_nf ci) ∈ cz_T) (hl3 : Cond.initialized (cz_on ci) ∈ cz_T) (hn : n + 1 ≤ (cz_rm M).cells) (hw : w + cz_nf ci ≤ (cz_rm M).slots)
    (kk : Tr X M (pc + 3) ls (.ref cn :: st) (cn + 1) (va_up K cn ci) (va_up N cn 0) (va_up I cn (fun _ => 0)) (va_up R cn (fun _ => none)) (va_up L cn (fun _ => 0)) (n + 1) (w + cz_nf ci)) : Tr X M pc ls st cn K N I R L n w := by
  obtain ⟨p, l, e, s, m, args, below, meth, c, A, Z, g⟩ := X
  intro hC H locs arr hR hS hl
  obtain ⟨hx, hb, hml, hown, hts, hr, hlocks, hin, hKK, hA⟩ := id hC
  obtain ⟨c1, c2, c3, c4, c5, c6⟩ := cz_cls hci
  have hKn := hKK.1.1 ci _ c1
  refine W.newcK hx hb hown (hts _ hl1) (hts _ hl2) (hts _ hl3) rfl hd hn hw hKn.2.1 rfl fun H1 kC hkC e1 z1 o1 => ?_
  have ha : cz_al g cn = H.size := by have := hR.2.2.1 0; simpa using this
  have up : ∀ {α : Type} {f : Nat → α} {v : α} (a : Nat), a < cn → va_up f cn v a = f a := fun a h => by rw [va_up, if_neg (by omega)]
  obtain ⟨f1, f2⟩ := cz_pushed (s := s) (kd := ci) (len := 0) (e0 := .inr (ci, cz_fs g (va_up I cn (fun _ => 0)) (va_up R cn (fun _ => none)) (va_up L cn (fun _ => 0)) cn ci)) (K' := va_up K cn ci) (N' := va_up N cn 0) (I' := va_up I cn (fun _ => 0)) (R' := va_up R cn (fun _ => none)) (L' := va_up L cn (fun _ => 0)) hR hS hA rfl rfl (fun a h => up a h) (fun a h => up a h) (fun a h => up a h)
    (by rw [cz_ce, show va_up K cn ci cn = ci by simp [va_up], if_pos hci]) ⟨_, c1, (u_born (cz_tf ci) hts c2 hKn hkC e1 c3).to (fun j hj => cz_zero hci hj (fun i => by simp [va_up]) (fun i => by simp [va_up]) (fun i => by simp [va_up]))⟩ z1 o1
  have hk := kk hC H1 locs arr f1 f2 hl
  rw [List.map_cons, show cz_rn g (.ref cn) = .ref H.size by rw [← ha]; rfl] at hk
  exact hk
def cz_at : ArrayType → Nat
  | .byte => 13
  | .int => 14
  | .long => 15
  | .boolean => 16
  | _ => 99
theorem tr_newa {ty : ArrayType} {x : Int32} {len : Nat} (hd : decode (cz_cc M) pc = .ok (.newarray ty, 2)) (hty : cz_at ty < 99) (hl1 : Cond.arrayClass (newarray.typeOf ty) ∈ cz_T) (hx0 : ¬ x < 0) (hlen : x.toNatClampNeg = len) (hsm : len ≤ 4096) (hn : n + 1 ≤ (cz_rm M).cells) (hw : w + len ≤ (cz_rm M).slots)
    (kk : Tr X M (pc + 2) ls (.ref cn :: st) (cn + 1) (va_up K cn (cz_at ty)) (va_up N cn len) (va_up I cn (fun _ => 0)) (va_up R cn (fun _ => none)) (va_up L cn (fun _ => 0)) (n + 1) (w + len)) : Tr X M pc ls (.int x :: st) cn K N I R L n w := by
  obtain ⟨p, l, e, s, m, args, below, meth, c, A, Z, g⟩ := X
  intro hC H locs arr hR hS hl
  obtain ⟨hx, hb, hml, hown, hts, hr, hlocks, hin, hKK, hA⟩ := id hC
  have hb4 : len * componentBytes (newarray.typeOf ty) ≤ 536870912 := by
    have : componentBytes (newarray.typeOf ty) ≤ 8 := by cases ty <;> decide
    exact Nat.le_trans (Nat.mul_le_mul hsm this) (by decide)
  refine va_newaK hx hb (hts _ hl1) rfl hd rfl hx0 hlen hb4 hn hw rfl fun H1 cA e1 z1 o1 hAr hNm => ?_
  have ha : cz_al g cn = H.size := by have := hR.2.2.1 0; simpa using this
  have up : ∀ {α : Type} {f : Nat → α} {v : α} (a : Nat), a < cn → va_up f cn v a = f a := fun a h => by rw [va_up, if_neg (by omega)]
  have hk13 : 13 ≤ cz_at ty := by revert hty; cases ty <;> decide
  have hk17 : cz_at ty < 17 := by revert hty; cases ty <;> decide
  have hcz : cz_ty (cz_at ty) = newarray.typeOf ty := by revert hty; cases ty <;> decide
  have hcA : g.2.1 (cz_at ty) = cA := by
    have h1 := (hKK.1.2 (cz_at ty - 13) _ (cz_tyat g hk13 (by omega))).2
    rw [hcz] at h1
    have h2 : s.vm.findClass ("[" ++ (newarray.typeOf ty).toString) = some (g.2.1 (cz_at ty)) := by revert h1; cases ty <;> exact fun h => h
    exact Option.some.inj (h2.symm.trans hNm)
  obtain ⟨f1, f2⟩ := cz_pushed (s := s) (kd := cz_at ty) (len := len) (e0 := .inl (g.2.1 (cz_at ty), len, cz_ac g (va_up I cn (fun _ => 0)) (va_up R cn (fun _ => none)) (va_up L cn (fun _ => 0)) cn (cz_at ty))) (K' := va_up K cn (cz_at ty)) (N' := va_up N cn len) (I' := va_up I cn (fun _ => 0)) (R' := va_up R cn (fun _ => none)) (L' := va_up L cn (fun _ => 0)) hR hS hA rfl rfl (fun a h => up a h) (fun a h => up a h) (fun a h => up a h)
    (by rw [cz_ce, show va_up K cn (cz_at ty) cn = cz_at ty by simp [va_up], if_neg (by omega), show va_up N cn len cn = len by simp [va_up]]) (by
      show H1[H.size]? = some (vp_cell _ _)
      rw [e1, hcA]
      revert hty
      cases ty <;> intro hty <;> first | (exact absurd hty (by decide)) | (simp only [cz_at, cz_ac]; simp [vp_cell, va_up]; try rfl)) z1 o1
  have hk := kk hC H1 locs arr f1 f2 hl
  rw [List.map_cons, show cz_rn g (.ref cn) = .ref H.size by rw [← ha]; rfl] at hk
  exact hk
theorem tr_newq {idx kd : Nat} {x : Int32} {len : Nat} (hd : decode (cz_cc M) pc = .ok (.anewarray idx, 3)) (h1 : 17 ≤ kd) (h2 : kd < 22) (hl1 : Cond.classLink (cz_on M.1) idx (cz_on (cz_el kd)) ∈ cz_T) (hl2 : cz_on (cz_el kd) ∈ cz_AO) (hx0 : ¬ x < 0) (hlen : x.toNatClampNeg = len) (hsm : len ≤ 4096) (hn : n + 1 ≤ (cz_rm M).cells) (hw : w + len ≤ (cz_rm M).slots)
    (kk : Tr X M (pc + 3) ls (.ref cn :: st) (cn + 1) (va_up K cn kd) (va_up N cn len) (va_up I cn (fun _ => 0)) (va_up R cn (fun _ => none)) (va_up L cn (fun _ => 0)) (n + 1) (w + len)) : Tr X M pc ls (.int x :: st) cn K N I R L n w := by
  obtain ⟨p, l, e, s, m, args, below, meth, c, A, Z, g⟩ := X
  intro hC H locs arr hR hS hl
  obtain ⟨hx, hb, hml, hown, hts, hr, hlocks, hin, hKK, hA⟩ := id hC
  subst hlen
  have hty := cz_tyR h1 h2
  refine W.anew hx hb hown (hts _ hl1) (va_AO.use (hKK.2.2.2.1 _ hl2)) rfl hd rfl hx0 (by omega) hn hw fun cA kA comp q1 q2 q3 q4 => ?_
  generalize hH1 : H.push ({ cls := cA, slots := Array.replicate x.toNatClampNeg .null, vm := .none } : Cell) = H1
  have z1 : H1.size = H.size + 1 := by rw [← hH1, Array.size_push]
  have e1 : H1[H.size]? = some (arrV cA x.toNatClampNeg (fun _ => .null)) := by rw [← hH1, Array.getElem?_push_size, ← arrV_new]
  have o1 : ∀ q : Nat, q < H.size → H1[q]? = H[q]? := fun q hq => by rw [← hH1, Array.getElem?_push, if_neg (Nat.ne_of_lt hq)]
  have ha : cz_al g cn = H.size := by have := hR.2.2.1 0; simpa using this
  have up : ∀ {α : Type} {f : Nat → α} {v : α} (a : Nat), a < cn → va_up f cn v a = f a := fun a h => by rw [va_up, if_neg (by omega)]
  have hcA : g.2.1 kd = cA := by
    have h3 := (hKK.1.2 (kd - 13) _ (cz_tyat g (show 13 ≤ kd by omega) h2)).2
    rw [hty.1] at h3
    obtain ⟨kA', comp', -, -, -, h4⟩ := h3
    exact Option.some.inj (h4.symm.trans q1)
  obtain ⟨f1, f2⟩ := cz_pushed (s := s) (kd := kd) (len := x.toNatClampNeg) (e0 := .inl (g.2.1 kd, x.toNatClampNeg, cz_ac g (va_up I cn (fun _ => 0)) (va_up R cn (fun _ => none)) (va_up L cn (fun _ => 0)) cn kd)) (K' := va_up K cn kd) (N' := va_up N cn x.toNatClampNeg) (I' := va_up I cn (fun _ => 0)) (R' := va_up R cn (fun _ => none)) (L' := va_up L cn (fun _ => 0)) hR hS hA rfl rfl (fun a h => up a h) (fun a h => up a h) (fun a h => up a h)
    (by rw [cz_ce, show va_up K cn kd cn = kd by simp [va_up], if_neg (by omega), show va_up N cn x.toNatClampNeg cn = x.toNatClampNeg by simp [va_up]]) (by
      show H1[H.size]? = some (vp_cell _ _)
      rw [e1, hcA, cz_acR h1]
      simp [vp_cell, va_up, va_rf]) z1 o1
  have hk := kk hC H1 locs arr f1 f2 hl
  rw [List.map_cons, show cz_rn g (.ref cn) = .ref H.size by rw [← ha]; rfl] at hk
  exact hk
/-! ===== constants ===== -/
theorem tr_ldc {idx : Nat} {v : Int32} (hd : decode (cz_cc M) pc = .ok (.ldc idx, 2)) (hl1 : Cond.constant (cz_on M.1) idx v ∈ cz_T) (k : Tr X M (pc + 2) ls (.int v :: st) cn K N I R L n w) : Tr X M pc ls st cn K N I R L n w := by
  obtain ⟨p, l, e, s, m, args, below, meth, c, A, Z, g⟩ := X
  intro hC H locs arr hR hS hl
  exact lv_ldc hC.1 hC.2.1 hC.2.2.2.1 (hC.2.2.2.2.1 _ hl1) hd (k hC H locs arr hR hS hl)
theorem tr_ldcw {idx : Nat} {v : Int32} (hd : decode (cz_cc M) pc = .ok (.ldc_w idx, 3)) (hl1 : Cond.constant (cz_on M.1) idx v ∈ cz_T) (k : Tr X M (pc + 3) ls (.int v :: st) cn K N I R L n w) : Tr X M pc ls st cn K N I R L n w := by
  obtain ⟨p, l, e, s, m, args, below, meth, c, A, Z, g⟩ := X
  intro hC H locs arr hR hS hl
  exact lv_ldcw hC.1 hC.2.1 hC.2.2.2.1 (hC.2.2.2.2.1 _ hl1) hd (k hC H locs arr hR hS hl)
theorem tr_ldc2 {idx : Nat} {v : Int64} (hd : decode (cz_cc M) pc = .ok (.ldc2_w idx, 3)) (hl1 : Cond.constantLong (cz_on M.1) idx v ∈ cz_T) (k : Tr X M (pc + 3) ls (.long v :: st) cn K N I R L n w) : Tr X M pc ls st cn K N I R L n w := by
  obtain ⟨p, l, e, s, m, args, below, meth, c, A, Z, g⟩ := X
  intro hC H locs arr hR hS hl
  exact lv_ldc2 hC.1 hC.2.1 hC.2.2.2.1 (hC.2.2.2.2.1 _ hl1) hd (k hC H locs arr hR hS hl)
theorem tr_ldcS {idx : Nat} {tx : String} {u : UInt32} (hd : decode (cz_cc M) pc = .ok (.ldc idx, 2)) (hl1 : (cz_on M.1, idx, tx, u.toNat) ∈ cz_SR) (k : Tr X M (pc + 2) ls (.float u :: st) cn K N I R L n w) : Tr X M pc ls st cn K N I R L n w := by
  obtain ⟨p, l, e, s, m, args, below, meth, c, A, Z, g⟩ := X
  intro hC H locs arr hR hS hl
  have hKK : cz_K g s := hC.2.2.2.2.2.2.2.2.1
  have hz : vk_R (cz_on M.1) idx tx (cz_sa g u.toNat) s := hKK.2.2.2.2 (cz_on M.1, idx, tx, u.toNat) hl1
  have hk := k hC H locs arr hR hS hl
  rw [List.map_cons, show cz_rn g (.float u) = .ref (cz_sa g u.toNat) from rfl] at hk
  exact va_ldcS hC.1 hC.2.1 hC.2.2.2.1 hz hd hk
theorem cz_ldcWS {p : Program} {l : Launch} {e : Env} {Rm : Room} {s : State} {m : MethodId} {args : Array Value} {below : List Frame} {meth : Method} {c : Code} {H : Heap} {locs : List Loc} {cells slots : Nat} {Q : State → Prop} {arr : Array Slot} {rest : List Value} {cc : ByteArray} (hexec : p.tables.exec = Jvm.exec) (hb : c.code = cc) {own tx : String} {index q : Nat} (hown : s.vm.findClass own = some m.cls) (hZ : vk_R own index tx q s) (hdg : decode cc pc = .ok (.ldc_w index, 3))
    (k : W p l e Rm s m args below meth c H locs cells slots Q (F0 m (pc + 3) arr (.ref q :: rest))) : W p l e Rm s m args below meth c H locs cells slots Q (F0 m pc arr rest) := by
  intro T hT X
  obtain ⟨t, a1, b1⟩ := k T hT X
  refine ⟨t, ?_, b1⟩
  obtain ⟨k, cf, i, a', hk, hcf, hcp, -, hr, hev'⟩ := Cond.stringRef_spec hown hZ.1
  cases hZ.2.symm.trans hev'
  obtain ⟨k', hk', he⟩ := X.warmed.alike.2.2 _ _ hk
  have hr' : k'.resolved[index]? = some (some (.string q)) := by
    rcases X.warmed.entry hk hk' index with h | ⟨h, -⟩
    · rw [h]; exact hr
    · rw [hr] at h; cases h
  subst hb
  jvm_step X.here [hexec, hdg, ldc_w.wp_string (e := e) (s := T) (f := F0 m pc arr rest) X.here.top hk' (by rw [he]; exact hcf) hcp hr']
  exact a1
theorem tr_ldcwS {idx : Nat} {tx : String} {u : UInt32} (hd : decode (cz_cc M) pc = .ok (.ldc_w idx, 3)) (hl1 : (cz_on M.1, idx, tx, u.toNat) ∈ cz_SR) (k : Tr X M (pc + 3) ls (.float u :: st) cn K N I R L n w) : Tr X M pc ls st cn K N I R L n w := by
  obtain ⟨p, l, e, s, m, args, below, meth, c, A, Z, g⟩ := X
  intro hC H locs arr hR hS hl
  have hKK : cz_K g s := hC.2.2.2.2.2.2.2.2.1
  have hz : vk_R (cz_on M.1) idx tx (cz_sa g u.toNat) s := hKK.2.2.2.2 (cz_on M.1, idx, tx, u.toNat) hl1
  have hk := k hC H locs arr hR hS hl
  rw [List.map_cons, show cz_rn g (.float u) = .ref (cz_sa g u.toNat) from rfl] at hk
  exact cz_ldcWS hC.1 hC.2.1 hC.2.2.2.1 hz hd hk
end CzRules2
end
section
/-! ===== contracts over the store ===== -/
abbrev cz_Q : Type := Option Value → Nat → (Nat → Nat) → (Nat → Nat) → cz_I → cz_R → cz_L → Prop
def cz_Qc (g : cz_G) (A : Nat → Prop) (Q : cz_Q) : Array Value → State → Outcome → State → Prop := fun _ st oc t =>
  (∃ (r : Option Value) (cn : Nat) (K N : Nat → Nat) (I : cz_I) (R : cz_R) (L : cz_L), oc = .returned (r.map (cz_rn g)) ∧ Q r cn K N I R L ∧ cz_At g A cn K N I R L t.heap) ∧ va_F A st t
def cz_Pc (g : cz_G) (sz : Nat) (as : List Value) (cn : Nat) (K N : Nat → Nat) (I : cz_I) (R : cz_R) (L : cz_L) : Array Value → State → Prop :=
  va_Pc (as.map (cz_rn g)) (fun U => U.heap.size = sz ∧ cz_At g (va_A (cz_ws g cn K N I R L) sz) cn K N I R L U.heap ∧ cz_K g U)
/-- THE CONTRACT: the method M, with these arguments and this store, returns with Q -/
def Con (l : Launch) (M : cz_M) (as : List Value) (cn : Nat) (K N : Nat → Nat) (I : cz_I) (R : cz_R) (L : cz_L) (Q : cz_Q) : Prop :=
  ∀ (g : cz_G) (sz : Nat), Met l (cz_nm M) (cz_wd M) (cz_rm M) (cz_Pc g sz as cn K N I R L) (cz_Qc g (va_A (cz_ws g cn K N I R L) sz) Q) (cz_rm M).cells (cz_rm M).slots (va_A (cz_ws g cn K N I R L) sz)
/-- a body's end is its contract's -/
def cz_Z : cz_X → cz_M → cz_Q → Prop
  | (_, _, _, s, _, args, below, _, _, A, Z, g), M, Q => Z = MQ below (cz_Qc g A Q) args s (cz_rm M).cells (cz_rm M).slots A
/-- the locals at the entry -/
def cz_en (as : List Value) (i : Nat) : Option Value := ((lv_args 0 as).find? (fun q => q.1 == i)).map (fun q => q.2)
theorem cz_args (g : cz_G) : ∀ (as : List Value) (i : Nat), lv_args i (as.map (cz_rn g)) = (lv_args i as).map (fun q => (q.1, cz_rn g q.2))
  | [], _ => rfl
  | v :: vs, i => by
    rw [List.map_cons, lv_args, lv_args, List.map_cons, cz_rn_cat, cz_args g vs]
theorem cz_sl (g : cz_G) : ∀ (as : List Value), (lg_sl (as.map (cz_rn g))).length = (lg_sl as).length
  | [] => rfl
  | v :: vs => by
    have h := cz_sl g vs
    simp only [lg_sl, List.map_cons, List.flatMap_cons, List.length_append, cz_rn_cat] at h ⊢
    rw [h]
    split <;> rfl
theorem Con.of {l : Launch} {M : cz_M} {as : List Value} {cn : Nat} {K N : Nat → Nat} {I : cz_I} {R : cz_R} {L : cz_L} {Q : cz_Q} (hy : plainName (cz_nm M).cls = true) (ho : (cz_nm M).cls = cz_on M.1) (hlen : (lg_sl as).length ≤ cz_nL M) (hlg : (lv_args 0 as).all (fun q => !(q.2.category == 2) || (cz_lg M).contains q.1) = true)
    (body : ∀ X : cz_X, X.2.1 = l → cz_Z X M Q → Tr X M 0 (cz_en as) [] cn K N I R L 0 0) : Con l M as cn K N I R L Q := by
  intro g sz
  refine Met.ofW (cc := cz_cc M) (maxL := cz_nL M) (ret := cz_rt M) (ws' := cz_T) hy rfl ?_
  intro p e s m args below meth c s₁ B hml hv
  obtain ⟨rfl, hsz, hR, hK⟩ := hv
  have hts := atoms_spec (ws := cz_wd M) B.pre
  have hown : s.vm.findClass (cz_on M.1) = some m.cls := by rw [← ho]; exact findClass_of_methodNamed B.named
  have hb := body (p, l, e, s, m, (as.map (cz_rn g)).toArray, below, meth, c, va_A (cz_ws g cn K N I R L) sz, MQ below (cz_Qc g (va_A (cz_ws g cn K N I R L) sz) Q) (as.map (cz_rn g)).toArray s (cz_rm M).cells (cz_rm M).slots (va_A (cz_ws g cn K N I R L) sz), g) rfl rfl
  have hl := lv_entry (as.map (cz_rn g)) (n := cz_nL M) (by rw [cz_sl]; exact hlen)
  rw [lg_entry_eq]
  refine hb ⟨B.exec, B.bytes, hml, hown, fun w hw => hts w (List.mem_cons_of_mem _ hw), B.returns, B.notSynchronized, fun h => (name_of_methodNamed B.named B.method).1.trans h, hK, fun q hq => Or.inr (by rw [← hsz]; exact hq)⟩ s.heap [] _ hR va_S.rf ?_
  rw [cz_args] at hl
  have hmem : ∀ (i : Nat) (v : Value), cz_en as i = some v → (i, v) ∈ lv_args 0 as := by
    intro i v h
    unfold cz_en at h
    cases hq : (lv_args 0 as).find? (fun q => q.1 == i) with
    | none => rw [hq] at h; cases h
    | some q =>
      rw [hq] at h
      cases h
      have h1 : q.1 = i := by simpa using List.find?_some hq
      have h2 := List.mem_of_find?_eq_some hq
      rw [← h1]; exact h2
  refine ⟨hl.1, hl.2.1, fun i v h => hl.2.2 (i, cz_rn g v) (List.mem_map.mpr ⟨(i, v), hmem i v h, rfl⟩), fun i v h hc => ?_⟩
  have h1 := List.all_eq_true.mp hlg _ (hmem i v h)
  simpa [hc] using h1
theorem cz_Pc_blind {g : cz_G} {sz : Nat} {as : List Value} {cn : Nat} {K N : Nat → Nat} {I : cz_I} {R : cz_R} {L : cz_L} : FrameBlind (cz_Pc g sz as cn K N I R L) := fun a U fr mk q => ⟨q.1, q.2.1, q.2.2.1, cz_K.same (s := U) (U := U.calling fr mk a) rfl q.2.2.2⟩
theorem Con.mono {l : Launch} {M : cz_M} {as : List Value} {cn : Nat} {K N : Nat → Nat} {I : cz_I} {R : cz_R} {L : cz_L} {Q Q' : cz_Q} (h : Con l M as cn K N I R L Q) (hq : ∀ r cn K N I R L, Q r cn K N I R L → Q' r cn K N I R L) : Con l M as cn K N I R L Q' := by
  intro g sz p e ha hc hk s m args below hf hpre hP hT
  obtain ⟨k, o, h1, h2, h3, ⟨⟨⟨r, cn2, K2, N2, I2, R2, L2, e1, e2, e3⟩, h5⟩, h6⟩⟩ := h g sz p e ha hc hk s m args below hf hpre hP hT
  exact ⟨k, o, h1, h2, h3, ⟨⟨r, cn2, K2, N2, I2, R2, L2, e1, hq _ _ _ _ _ _ _ e2, e3⟩, h5⟩, h6⟩
section CzCalls
variable {X : cz_X} {M : cz_M} {pc : Nat} {ls : Nat → Option Value} {st : List Value} {cn : Nat} {K N : Nat → Nat} {I : cz_I} {R : cz_R} {L : cz_L} {n w : Nat} {Q : cz_Q}
theorem tr_iret {x : Int32} (hZ : cz_Z X M Q) (hd : decode (cz_cc M) pc = .ok (.ireturn, 1)) (hrt : cz_rt M = some .int) (hn : n ≤ (cz_rm M).cells) (hw : w ≤ (cz_rm M).slots) (hq : Q (some (.int x)) cn K N I R L) : Tr X M pc ls ([.int x]) cn K N I R L n w := by
  obtain ⟨p, l, e, s, m, args, below, meth, c, A, Z, g⟩ := X
  intro hC H locs arr hR hS hl
  have hZ : Z = _ := hZ
  subst hZ
  have hlocks : meth.locks = false := hC.2.2.2.2.2.2.1
  refine W.widen hn hw ?_
  exact W.iret (v := x) hC.1 hC.2.1 (hC.2.2.2.2.2.1.trans hrt) (fun t ht hW => ⟨⟨some (.int x), cn, K, N, I, R, L, rfl, hq, by rw [ht]; exact hR⟩, hS.F ht⟩) hS.2.2 hd
theorem tr_zret {x : Int32} (hZ : cz_Z X M Q) (hd : decode (cz_cc M) pc = .ok (.ireturn, 1)) (hrt : cz_rt M = some .boolean) (hx : x = 0 ∨ x = 1) (hn : n ≤ (cz_rm M).cells) (hw : w ≤ (cz_rm M).slots) (hq : Q (some (.int x)) cn K N I R L) : Tr X M pc ls ([.int x]) cn K N I R L n w := by
  obtain ⟨p, l, e, s, m, args, below, meth, c, A, Z, g⟩ := X
  intro hC H locs arr hR hS hl
  have hZ : Z = _ := hZ
  subst hZ
  have hlocks : meth.locks = false := hC.2.2.2.2.2.2.1
  refine W.widen hn hw ?_
  exact W.zret (v := x) hC.1 hC.2.1 (hC.2.2.2.2.2.1.trans hrt) (by rcases hx with rfl | rfl <;> decide +kernel) (fun t ht hW => ⟨⟨some (.int x), cn, K, N, I, R, L, rfl, hq, by rw [ht]; exact hR⟩, hS.F ht⟩) hS.2.2 hd
theorem tr_lret {x : Int64} (hZ : cz_Z X M Q) (hd : decode (cz_cc M) pc = .ok (.lreturn, 1)) (hrt : cz_rt M = some .long) (hn : n ≤ (cz_rm M).cells) (hw : w ≤ (cz_rm M).slots) (hq : Q (some (.long x)) cn K N I R L) : Tr X M pc ls ([.long x]) cn K N I R L n w := by
  obtain ⟨p, l, e, s, m, args, below, meth, c, A, Z, g⟩ := X
  intro hC H locs arr hR hS hl
  have hZ : Z = _ := hZ
  subst hZ
  have hlocks : meth.locks = false := hC.2.2.2.2.2.2.1
  refine W.widen hn hw ?_
  exact W.lret (v := x) hC.1 hC.2.1 (hC.2.2.2.2.2.1.trans hrt) (fun t ht hW => ⟨⟨some (.long x), cn, K, N, I, R, L, rfl, hq, by rw [ht]; exact hR⟩, hS.F ht⟩) hS.2.2 hd
theorem tr_aret {x : Nat} {C : String} (hZ : cz_Z X M Q) (hd : decode (cz_cc M) pc = .ok (.areturn, 1)) (hrt : cz_rt M = some (.object C)) (hn : n ≤ (cz_rm M).cells) (hw : w ≤ (cz_rm M).slots) (hq : Q (some (.ref x)) cn K N I R L) : Tr X M pc ls ([.ref x]) cn K N I R L n w := by
  obtain ⟨p, l, e, s, m, args, below, meth, c, A, Z, g⟩ := X
  intro hC H locs arr hR hS hl
  have hZ : Z = _ := hZ
  subst hZ
  have hlocks : meth.locks = false := hC.2.2.2.2.2.2.1
  refine W.widen hn hw ?_
  exact W.aret (v := .ref (cz_al g x)) hC.1 hC.2.1 (hC.2.2.2.2.2.1.trans hrt) (Or.inl ⟨_, rfl⟩) (Or.inr ⟨_, rfl⟩) (fun t ht hW => ⟨⟨some (.ref x), cn, K, N, I, R, L, rfl, hq, by rw [ht]; exact hR⟩, hS.F ht⟩) hS.2.2 hd
theorem tr_aretS {x : UInt32} {C : String} (hZ : cz_Z X M Q) (hd : decode (cz_cc M) pc = .ok (.areturn, 1)) (hrt : cz_rt M = some (.object C)) (hn : n ≤ (cz_rm M).cells) (hw : w ≤ (cz_rm M).slots) (hq : Q (some (.float x)) cn K N I R L) : Tr X M pc ls ([.float x]) cn K N I R L n w := by
  obtain ⟨p, l, e, s, m, args, below, meth, c, A, Z, g⟩ := X
  intro hC H locs arr hR hS hl
  have hZ : Z = _ := hZ
  subst hZ
  have hlocks : meth.locks = false := hC.2.2.2.2.2.2.1
  refine W.widen hn hw ?_
  exact W.aret (v := .ref (cz_sa g x.toNat)) hC.1 hC.2.1 (hC.2.2.2.2.2.1.trans hrt) (Or.inl ⟨_, rfl⟩) (Or.inr ⟨_, rfl⟩) (fun t ht hW => ⟨⟨some (.float x), cn, K, N, I, R, L, rfl, hq, by rw [ht]; exact hR⟩, hS.F ht⟩) hS.2.2 hd
theorem tr_vret (hZ : cz_Z X M Q) (hd : decode (cz_cc M) pc = .ok (.return_, 1)) (hrt : cz_rt M = none) (hn : n ≤ (cz_rm M).cells) (hw : w ≤ (cz_rm M).slots) (hq : Q (none) cn K N I R L) : Tr X M pc ls ([]) cn K N I R L n w := by
  obtain ⟨p, l, e, s, m, args, below, meth, c, A, Z, g⟩ := X
  intro hC H locs arr hR hS hl
  have hZ : Z = _ := hZ
  subst hZ
  have hlocks : meth.locks = false := hC.2.2.2.2.2.2.1
  refine W.widen hn hw ?_
  exact W.vret hC.1 hC.2.1 (hC.2.2.2.2.2.1.trans hrt) (fun t ht hW => ⟨⟨none, cn, K, N, I, R, L, rfl, hq, by rw [ht]; exact hR⟩, hS.F ht⟩) hS.2.2 hd
theorem tr_obj {k idx : Nat} (hd : decode (cz_cc M) pc = .ok (.invokespecial idx, 3)) (hl1 : Cond.methodLink (cz_on M.1) idx objectInit ∈ cz_T) (hl2 : Cond.instanceMethod objectInit ∈ cz_T) (hl3 : Cond.code objectInit ⟨#[0xb1]⟩ 1 none ∈ cz_T) (hf : 1 ≤ (cz_rm M).frames) (ho : (st.map fun v => v.category).sum + 12 ≤ (cz_rm M).locals) (kk : Tr X M (pc + 3) ls st cn K N I R L n w) : Tr X M pc ls (.ref k :: st) cn K N I R L n w := by
  obtain ⟨p, l, e, s, m, args, below, meth, c, A, Z, g⟩ := X
  intro hC H locs arr hR hS hl
  have hts := hC.2.2.2.2.1
  refine W.objInit hC.1 hC.2.1 hC.2.2.2.1 (hts _ hl1) (hts _ hl2) (hts _ hl3) rfl (by rw [hC.2.2.1]; exact hl.1) rfl hd hf ?_ ?_
  · have : 2 * (F0 m pc arr (List.map (cz_rn g) (Value.ref k :: st))).monitorRoom = 0 := rfl
    rw [this, cz_rn_sum]; omega
  · exact kk hC H locs arr hR hS hl
/-! ===== calls ===== -/
def cz_room (M M' : cz_M) : Prop := (cz_rm M').frames + 1 ≤ (cz_rm M).frames ∧ 8 + (cz_nL M' + 11) + (cz_rm M').locals ≤ (cz_rm M).locals
/-- a method as the words know it: its class's number, its parameters -/
def cz_my (M' : cz_M) (ci np : Nat) : Prop := (cz_nm M').cls = cz_on ci ∧ Cond.code (cz_nm M') (cz_cc M') (cz_nL M') (cz_rt M') ∈ cz_T ∧ Cond.initialized (cz_on ci) ∈ cz_T ∧ ((cz_nm M').cls ≠ "java/lang/invoke/MethodHandle" ∧ (cz_nm M').cls ≠ "java/lang/invoke/VarHandle" ∧ (parseMethodDescriptor (cz_nm M').desc).map (fun d => d.parameters.length) = some np)
theorem cz_good {M' : cz_M} (h : Cond.code (cz_nm M') (cz_cc M') (cz_nL M') (cz_rt M') ∈ cz_T) : GoodIn cz_T (cz_wd M') := by
  intro w hw
  have h1 : w ∈ cz_T := by
    rcases List.mem_cons.mp hw with rfl | h2
    · exact h
    · exact h2
  exact ⟨h1, good_of_word (List.mem_filter.mp h1).2⟩
section CzBack
variable {p : Program} {l : Launch} {e : Env} {s : State} {m : MethodId} {args : Array Value} {below : List Frame} {meth : Method} {c : Code} {A : Nat → Prop} {Z : State → Prop} {g : cz_G} {H : Heap} {locs : List Loc} {arr : Array Slot} {fr : JFrame}
/-- behind a call -/
theorem cz_after {a : Array Value} {mc ms : Nat} {st0 : List Value} (hC : cz_ok (p, l, e, s, m, args, below, meth, c, A, Z, g) M) (hR : cz_At g A cn K N I R L H) (hS : va_S A s.heap H locs) (hl : cz_lc g M arr ls)
    (hr : va_Run p l e (cz_rm M) s m args below meth c H locs n w mc ms (F0 m pc arr st0) (st.map (cz_rn g)) (cz_Qc g (va_A (cz_ws g cn K N I R L) H.size) Q a) (va_A (cz_ws g cn K N I R L) H.size))
    (kk : ∀ r cn' K' N' I' R' L', Q r cn' K' N' I' R' L' → Tr (p, l, e, s, m, args, below, meth, c, A, Z, g) M (pc + 3) ls (r.toList ++ st) cn' K' N' I' R' L' (n + mc) (w + ms)) : W p l e (cz_rm M) s m args below meth c H locs n w Z (F0 m pc arr st0) := by
  have hfree : ∀ q, va_A (cz_ws g cn K N I R L) H.size q → A q := by
    intro q h
    rcases h with ⟨k, e, h⟩ | h
    · exact hR.2.1.2 k (q, e) h
    · exact hC.2.2.2.2.2.2.2.2.2 q (Nat.le_trans hS.1 h)
  intro T hT X
  obtain ⟨v, st₀, t, T', LL, h0, X', hL, e1, e2, ⟨⟨r, cn2, K2, N2, I2, R2, L2, hv, hq, hAt⟩, hz, hk⟩, stp⟩ := hr T hT X
  have hv : v = r.map (cz_rn g) := by cases hv; rfl
  subst hv
  rw [h0] at hz hk
  have hAt2 : cz_At g A cn2 K2 N2 I2 R2 L2 T'.heap := by
    rw [e1]; exact ⟨hAt.1, hAt.2.1.weaken (fun _ q _ h => hfree q.1 h), hAt.2.2⟩
  have hS2 : va_S A s.heap T'.heap (locs ++ LL) := ⟨Nat.le_trans hS.1 (by rw [e1]; exact hz), fun q h1 h2 => by rw [e1, hk q (Nat.lt_of_lt_of_le h1 hS.1) (fun z => h2 (hfree q z))]; exact hS.2.1 q h1 h2, fun q hq => by
      rcases List.mem_append.mp hq with h | h
      · exact hS.2.2 q h
      · exact hfree _ (hL q h)⟩
  have hw := kk r cn2 K2 N2 I2 R2 L2 hq hC T'.heap (locs ++ LL) arr hAt2 hS2 hl
  obtain ⟨t2, a1, b1⟩ := hw T' rfl X'
  refine ⟨t2, stp t2 ?_, b1⟩
  have he : (r.toList ++ st).map (cz_rn g) = (r.map (cz_rn g)).toList ++ st.map (cz_rn g) := by cases r <;> rfl
  rw [he] at a1
  exact a1
theorem cz_pre {as : List Value} (hC : cz_ok (p, l, e, s, m, args, below, meth, c, A, Z, g) M) (hR : cz_At g A cn K N I R L H) : ∀ U : State, U.heap = H → s.WarmedH U.vm → cz_Pc g H.size as cn K N I R L (as.map (cz_rn g)).toArray U := by
  intro U hU hW
  refine ⟨rfl, by rw [hU], ?_, cz_K.warm hW hC.2.2.2.2.2.2.2.2.1⟩
  rw [hU]
  exact ⟨hR.1, hR.2.1.self, hR.2.2⟩
end CzBack
theorem cz_rest {st : List Value} (g : cz_G) {m : MethodId} {arr : Array Slot} {stk : List Value} (h : (st.map fun v => v.category).sum ≤ 8) : 2 * (F0 m pc arr stk).monitorRoom + ((st.map (cz_rn g)).map fun v => v.category).sum ≤ 8 := by
  rw [cz_rn_sum]; exact lv_room h
theorem cz_stk (g : cz_G) (as st : List Value) : (as.reverse ++ st).map (cz_rn g) = (as.map (cz_rn g)).reverse ++ st.map (cz_rn g) := by rw [List.map_append, List.map_reverse]
theorem tr_callV {M' : cz_M} {as : List Value} {k ci np idx : Nat} (hd : decode (cz_cc M) pc = .ok (.invokevirtual idx, 3)) (hlk : Cond.methodLink (cz_on M.1) idx (cz_nm M') ∈ cz_T) (hin : Cond.instanceMethod (cz_nm M') ∈ cz_T) (hse : Cond.selects (cz_on ci) (cz_nm M') (cz_nm M') ∈ cz_T) (hmy : cz_my M' ci np) (hci : ci < 13) (hrm : cz_room M M') (hnp : as.length = np) (hk : K k = ci) (hst : (st.map fun v => v.category).sum ≤ 8) (hn : n + (cz_rm M').cells ≤ (cz_rm M).cells) (hw : w + (cz_rm M').slots ≤ (cz_rm M).slots)
    (hCon : Con X.2.1 M' (.ref k :: as) cn K N I R L Q) (kk : ∀ r cn' K' N' I' R' L', Q r cn' K' N' I' R' L' → Tr X M (pc + 3) ls (r.toList ++ st) cn' K' N' I' R' L' (n + (cz_rm M').cells) (w + (cz_rm M').slots)) : Tr X M pc ls (as.reverse ++ .ref k :: st) cn K N I R L n w := by
  obtain ⟨p, l, e, s, m, args, below, meth, c, A, Z, g⟩ := X
  intro hC H locs arr hR hS hl
  have hts := hC.2.2.2.2.1
  obtain ⟨y1, y2, y3, y4⟩ := hmy
  have hcb := callB_of (R := cz_rm M) (own := cz_on M.1) (index := idx) np hts (cz_good y2) rfl rfl rfl (by rw [y1]; exact hts _ y3) (hts _ hlk) y4 ⟨hrm.1, hrm.2⟩
  have hg := cz_getO (g := g) (N := N) (I := I) (R := R) (L := L) hR.2.2.2 hk hci
  have hre := va_recv hC.2.2.2.2.2.2.2.2.1.1 hR.1 (cz_cls hci).1 hg
  rw [cz_stk, List.map_cons]
  exact cz_after hC hR hS hl (va_runV (C := cz_on ci) (b := cz_al g k) (As := as.map (cz_rn g)) ⟨hC.1, hC.2.1, hC.2.2.1, hC.2.2.2.1, hts⟩ (hCon g H.size) ⟨hcb, hts _ hin, hts _ hse⟩ ⟨cz_Pc_blind, hre, cz_pre (as := .ref k :: as) hC hR⟩ rfl (by rw [List.length_map]; exact hnp) hl.1 rfl (cz_rest g hst) hd ⟨hn, hw⟩) kk
theorem tr_callS {M' : cz_M} {as : List Value} {ci np idx : Nat} (hd : decode (cz_cc M) pc = .ok (.invokestatic idx, 3)) (hlk : Cond.methodLink (cz_on M.1) idx (cz_nm M') ∈ cz_T) (hin : Cond.static (cz_nm M') ∈ cz_T) (hmy : cz_my M' ci np) (hrm : cz_room M M') (hnp : as.length = np) (hst : (st.map fun v => v.category).sum ≤ 8) (hn : n + (cz_rm M').cells ≤ (cz_rm M).cells) (hw : w + (cz_rm M').slots ≤ (cz_rm M).slots)
    (hCon : Con X.2.1 M' as cn K N I R L Q) (kk : ∀ r cn' K' N' I' R' L', Q r cn' K' N' I' R' L' → Tr X M (pc + 3) ls (r.toList ++ st) cn' K' N' I' R' L' (n + (cz_rm M').cells) (w + (cz_rm M').slots)) : Tr X M pc ls (as.reverse ++ st) cn K N I R L n w := by
  obtain ⟨p, l, e, s, m, args, below, meth, c, A, Z, g⟩ := X
  intro hC H locs arr hR hS hl
  have hts := hC.2.2.2.2.1
  obtain ⟨y1, y2, y3, y4⟩ := hmy
  have hcb := callB_of (R := cz_rm M) (own := cz_on M.1) (index := idx) np hts (cz_good y2) rfl rfl rfl (by rw [y1]; exact hts _ y3) (hts _ hlk) y4 ⟨hrm.1, hrm.2⟩
  rw [cz_stk]
  exact cz_after hC hR hS hl (va_runS (As := as.map (cz_rn g)) ⟨hC.1, hC.2.1, hC.2.2.1, hC.2.2.2.1, hts⟩ (hCon g H.size) ⟨hcb, hts _ hin⟩ ⟨cz_Pc_blind, cz_pre (as := as) hC hR⟩ rfl (by rw [List.length_map]; exact hnp) hl.1 rfl (cz_rest g hst) hd ⟨hn, hw⟩) kk
theorem tr_callI {M' : cz_M} {as : List Value} {k ci np idx : Nat} (hd : decode (cz_cc M) pc = .ok (.invokespecial idx, 3)) (hlk : Cond.methodLink (cz_on M.1) idx (cz_nm M') ∈ cz_T) (hin : Cond.instanceMethod (cz_nm M') ∈ cz_T) (hnm : (cz_nm M').name = "<init>") (hrt : cz_rt M' = none) (hmy : cz_my M' ci np) (hrm : cz_room M M') (hnp : as.length = np) (hst : (st.map fun v => v.category).sum ≤ 8) (hn : n + (cz_rm M').cells ≤ (cz_rm M).cells) (hw : w + (cz_rm M').slots ≤ (cz_rm M).slots)
    (hCon : Con X.2.1 M' (.ref k :: as) cn K N I R L Q) (kk : ∀ r cn' K' N' I' R' L', Q r cn' K' N' I' R' L' → Tr X M (pc + 3) ls (r.toList ++ st) cn' K' N' I' R' L' (n + (cz_rm M').cells) (w + (cz_rm M').slots)) : Tr X M pc ls (as.reverse ++ .ref k :: st) cn K N I R L n w := by
  obtain ⟨p, l, e, s, m, args, below, meth, c, A, Z, g⟩ := X
  intro hC H locs arr hR hS hl
  have hts := hC.2.2.2.2.1
  obtain ⟨y1, y2, y3, y4⟩ := hmy
  have hcb := callB_of (R := cz_rm M) (own := cz_on M.1) (index := idx) np hts (cz_good y2) rfl rfl rfl (by rw [y1]; exact hts _ y3) (hts _ hlk) y4 ⟨hrm.1, hrm.2⟩
  rw [hrt] at hcb
  rw [cz_stk, List.map_cons]
  exact cz_after hC hR hS hl (va_runI (b := cz_al g k) (As := as.map (cz_rn g)) ⟨hC.1, hC.2.1, hC.2.2.1, hC.2.2.2.1, hts⟩ (hCon g H.size) ⟨hcb, hnm, hts _ hin⟩ ⟨cz_Pc_blind, cz_pre (as := .ref k :: as) hC hR⟩ rfl (by rw [List.length_map]; exact hnp) hl.1 rfl (cz_rest g hst) hd ⟨hn, hw⟩) kk
theorem tr_callSN {M' : cz_M} {as : List Value} {ci np idx : Nat} {host : String} (hd : decode (cz_cc M) pc = .ok (.invokestatic idx, 3)) (hlk : (cz_on M.1, idx, cz_nm M', host) ∈ cz_NM) (hin : Cond.static (cz_nm M') ∈ cz_T) (hmy : cz_my M' ci np) (hrm : cz_room M M') (hnp : as.length = np) (hst : (st.map fun v => v.category).sum ≤ 8) (hn : n + (cz_rm M').cells ≤ (cz_rm M).cells) (hw : w + (cz_rm M').slots ≤ (cz_rm M).slots)
    (hCon : Con X.2.1 M' as cn K N I R L Q) (kk : ∀ r cn' K' N' I' R' L', Q r cn' K' N' I' R' L' → Tr X M (pc + 3) ls (r.toList ++ st) cn' K' N' I' R' L' (n + (cz_rm M').cells) (w + (cz_rm M').slots)) : Tr X M pc ls (as.reverse ++ st) cn K N I R L n w := by
  obtain ⟨p, l, e, s, m, args, below, meth, c, A, Z, g⟩ := X
  intro hC H locs arr hR hS hl
  have hts := hC.2.2.2.2.1
  have hKK : cz_K g s := hC.2.2.2.2.2.2.2.2.1
  obtain ⟨y1, y2, y3, y4⟩ := hmy
  have hcb := va_cnB (R := cz_rm M) (own := cz_on M.1) (host := host) (index := idx) np hts (cz_good y2) rfl rfl rfl (hKK.2.2.1 (cz_on M.1, idx, cz_nm M', host) hlk) (by rw [y1]; exact hts _ y3) y4 ⟨hrm.1, hrm.2⟩
  rw [cz_stk]
  exact cz_after hC hR hS hl (va_runSN (As := as.map (cz_rn g)) ⟨hC.1, hC.2.1, hC.2.2.1, hC.2.2.2.1, hts⟩ (hCon g H.size) ⟨hcb, hts _ hin, trivial⟩ ⟨cz_Pc_blind, cz_pre (as := as) hC hR⟩ rfl (by rw [List.length_map]; exact hnp) hl.1 rfl (cz_rest g hst) hd ⟨hn, hw⟩) kk
theorem tr_callVN {M' : cz_M} {as : List Value} {k ci np idx : Nat} {host : String} (hd : decode (cz_cc M) pc = .ok (.invokevirtual idx, 3)) (hlk : (cz_on M.1, idx, cz_nm M', host) ∈ cz_NM) (hin : Cond.instanceMethod (cz_nm M') ∈ cz_T) (hse : Cond.selects (cz_on ci) (cz_nm M') (cz_nm M') ∈ cz_T) (hmy : cz_my M' ci np) (hci : ci < 13) (hrm : cz_room M M') (hnp : as.length = np) (hk : K k = ci) (hst : (st.map fun v => v.category).sum ≤ 8) (hn : n + (cz_rm M').cells ≤ (cz_rm M).cells) (hw : w + (cz_rm M').slots ≤ (cz_rm M).slots)
    (hCon : Con X.2.1 M' (.ref k :: as) cn K N I R L Q) (kk : ∀ r cn' K' N' I' R' L', Q r cn' K' N' I' R' L' → Tr X M (pc + 3) ls (r.toList ++ st) cn' K' N' I' R' L' (n + (cz_rm M').cells) (w + (cz_rm M').slots)) : Tr X M pc ls (as.reverse ++ .ref k :: st) cn K N I R L n w := by
  obtain ⟨p, l, e, s, m, args, below, meth, c, A, Z, g⟩ := X
  intro hC H locs arr hR hS hl
  have hts := hC.2.2.2.2.1
  have hKK : cz_K g s := hC.2.2.2.2.2.2.2.2.1
  obtain ⟨y1, y2, y3, y4⟩ := hmy
  have hcb := va_cnB (R := cz_rm M) (own := cz_on M.1) (host := host) (index := idx) np hts (cz_good y2) rfl rfl rfl (hKK.2.2.1 (cz_on M.1, idx, cz_nm M', host) hlk) (by rw [y1]; exact hts _ y3) y4 ⟨hrm.1, hrm.2⟩
  have hg := cz_getO (g := g) (N := N) (I := I) (R := R) (L := L) hR.2.2.2 hk hci
  have hre := va_recv hKK.1 hR.1 (cz_cls hci).1 hg
  rw [cz_stk, List.map_cons]
  exact cz_after hC hR hS hl (va_runVN (C := cz_on ci) (b := cz_al g k) (As := as.map (cz_rn g)) ⟨hC.1, hC.2.1, hC.2.2.1, hC.2.2.2.1, hts⟩ (hCon g H.size) ⟨hcb, hts _ hin, hts _ hse⟩ ⟨cz_Pc_blind, hre, cz_pre (as := .ref k :: as) hC hR⟩ rfl (by rw [List.length_map]; exact hnp) hl.1 rfl (cz_rest g hst) hd ⟨hn, hw⟩) kk
theorem tr_callIN {M' : cz_M} {as : List Value} {k ci np idx : Nat} {host : String} (hd : decode (cz_cc M) pc = .ok (.invokespecial idx, 3)) (hlk : (cz_on M.1, idx, cz_nm M', host) ∈ cz_NM) (hin : Cond.instanceMethod (cz_nm M') ∈ cz_T) (hnm : (cz_nm M').name = "<init>") (hrt : cz_rt M' = none) (hmy : cz_my M' ci np) (hrm : cz_room M M') (hnp : as.length = np) (hst : (st.map fun v => v.category).sum ≤ 8) (hn : n + (cz_rm M').cells ≤ (cz_rm M).cells) (hw : w + (cz_rm M').slots ≤ (cz_rm M).slots)
    (hCon : Con X.2.1 M' (.ref k :: as) cn K N I R L Q) (kk : ∀ r cn' K' N' I' R' L', Q r cn' K' N' I' R' L' → Tr X M (pc + 3) ls (r.toList ++ st) cn' K' N' I' R' L' (n + (cz_rm M').cells) (w + (cz_rm M').slots)) : Tr X M pc ls (as.reverse ++ .ref k :: st) cn K N I R L n w := by
  obtain ⟨p, l, e, s, m, args, below, meth, c, A, Z, g⟩ := X
  intro hC H locs arr hR hS hl
  have hts := hC.2.2.2.2.1
  have hKK : cz_K g s := hC.2.2.2.2.2.2.2.2.1
  obtain ⟨y1, y2, y3, y4⟩ := hmy
  have hcb := va_cnB (R := cz_rm M) (own := cz_on M.1) (host := host) (index := idx) np hts (cz_good y2) rfl rfl rfl (hKK.2.2.1 (cz_on M.1, idx, cz_nm M', host) hlk) (by rw [y1]; exact hts _ y3) y4 ⟨hrm.1, hrm.2⟩
  rw [hrt] at hcb
  rw [cz_stk, List.map_cons]
  exact cz_after hC hR hS hl (va_runIN (b := cz_al g k) (As := as.map (cz_rn g)) ⟨hC.1, hC.2.1, hC.2.2.1, hC.2.2.2.1, hts⟩ (hCon g H.size) ⟨hcb, hnm, hts _ hin⟩ ⟨cz_Pc_blind, cz_pre (as := .ref k :: as) hC hR⟩ rfl (by rw [List.length_map]; exact hnp) hl.1 rfl (cz_rest g hst) hd ⟨hn, hw⟩) kk
end CzCalls
end
