section
-- ===== PART A: goes FIRST, ahead of the names: the tables' words, and 'selects' of the private methods out of them =====
/-- a private method of a class that the tables say can be made, by its rows of tables_1 -/
def lw_okq (q : MethodName × Nat) : Prop := (q.1.cls ≠ "java/lang/invoke/MethodHandle" ∧ q.1.cls ≠ "java/lang/invoke/VarHandle") ∧ Cond.instantiable q.1.cls q.2 ∈ tables_1 ∧ Cond.privateMethod q.1 ∈ tables_1 ∧ Cond.instanceMethod q.1 ∈ tables_1
theorem lw_p0 : lw_okq (⟨"EclipseCheese", "putBytes", "(I)V"⟩, 18) := ⟨⟨by decide +kernel, by decide +kernel⟩, List.mem_of_getElem? (i := 26) (by decide +kernel), List.mem_of_getElem? (i := 511) (by decide +kernel), List.mem_of_getElem? (i := 512) (by decide +kernel)⟩
theorem lw_p1 : lw_okq (⟨"EclipseCheese", "refused", "(I)I"⟩, 18) := ⟨⟨by decide +kernel, by decide +kernel⟩, List.mem_of_getElem? (i := 26) (by decide +kernel), List.mem_of_getElem? (i := 519) (by decide +kernel), List.mem_of_getElem? (i := 520) (by decide +kernel)⟩
theorem lw_p2 : lw_okq (⟨"EclipseCheese$Reader", "step", "()V"⟩, 17) := ⟨⟨by decide +kernel, by decide +kernel⟩, List.mem_of_getElem? (i := 233) (by decide +kernel), List.mem_of_getElem? (i := 531) (by decide +kernel), List.mem_of_getElem? (i := 532) (by decide +kernel)⟩
theorem lw_p3 : lw_okq (⟨"EclipseCheese$Reader", "stepWord", "()I"⟩, 17) := ⟨⟨by decide +kernel, by decide +kernel⟩, List.mem_of_getElem? (i := 233) (by decide +kernel), List.mem_of_getElem? (i := 535) (by decide +kernel), List.mem_of_getElem? (i := 536) (by decide +kernel)⟩
theorem lw_p4 : lw_okq (⟨"EclipseCheese$Reader", "stepWhole", "()I"⟩, 17) := ⟨⟨by decide +kernel, by decide +kernel⟩, List.mem_of_getElem? (i := 233) (by decide +kernel), List.mem_of_getElem? (i := 541) (by decide +kernel), List.mem_of_getElem? (i := 542) (by decide +kernel)⟩
theorem lw_p5 : lw_okq (⟨"EclipseCheese$Reader", "readLine", "()Z"⟩, 17) := ⟨⟨by decide +kernel, by decide +kernel⟩, List.mem_of_getElem? (i := 233) (by decide +kernel), List.mem_of_getElem? (i := 545) (by decide +kernel), List.mem_of_getElem? (i := 546) (by decide +kernel)⟩
theorem lw_p6 : lw_okq (⟨"EclipseCheese$Reader", "sortOfWord", "()I"⟩, 17) := ⟨⟨by decide +kernel, by decide +kernel⟩, List.mem_of_getElem? (i := 233) (by decide +kernel), List.mem_of_getElem? (i := 549) (by decide +kernel), List.mem_of_getElem? (i := 550) (by decide +kernel)⟩
theorem lw_p7 : lw_okq (⟨"EclipseCheese$Reader", "fail", "(I)Z"⟩, 17) := ⟨⟨by decide +kernel, by decide +kernel⟩, List.mem_of_getElem? (i := 233) (by decide +kernel), List.mem_of_getElem? (i := 618) (by decide +kernel), List.mem_of_getElem? (i := 619) (by decide +kernel)⟩
theorem lw_p8 : lw_okq (⟨"EclipseCheese$Reader", "isToldAgain", "(I)Z"⟩, 17) := ⟨⟨by decide +kernel, by decide +kernel⟩, List.mem_of_getElem? (i := 233) (by decide +kernel), List.mem_of_getElem? (i := 622) (by decide +kernel), List.mem_of_getElem? (i := 623) (by decide +kernel)⟩
theorem lw_p9 : lw_okq (⟨"EclipseCheese$Reader", "isFull", "(I)Z"⟩, 17) := ⟨⟨by decide +kernel, by decide +kernel⟩, List.mem_of_getElem? (i := 233) (by decide +kernel), List.mem_of_getElem? (i := 626) (by decide +kernel), List.mem_of_getElem? (i := 627) (by decide +kernel)⟩
theorem lw_p10 : lw_okq (⟨"EclipseCheese$Reader", "readAlp", "()Z"⟩, 17) := ⟨⟨by decide +kernel, by decide +kernel⟩, List.mem_of_getElem? (i := 233) (by decide +kernel), List.mem_of_getElem? (i := 630) (by decide +kernel), List.mem_of_getElem? (i := 631) (by decide +kernel)⟩
theorem lw_p11 : lw_okq (⟨"EclipseCheese$Reader", "takeWord", "(Ljava/lang/String;)Z"⟩, 17) := ⟨⟨by decide +kernel, by decide +kernel⟩, List.mem_of_getElem? (i := 233) (by decide +kernel), List.mem_of_getElem? (i := 635) (by decide +kernel), List.mem_of_getElem? (i := 636) (by decide +kernel)⟩
theorem lw_p12 : lw_okq (⟨"EclipseCheese$Reader", "seesWord", "(Ljava/lang/String;)Z"⟩, 17) := ⟨⟨by decide +kernel, by decide +kernel⟩, List.mem_of_getElem? (i := 233) (by decide +kernel), List.mem_of_getElem? (i := 639) (by decide +kernel), List.mem_of_getElem? (i := 640) (by decide +kernel)⟩
theorem lw_p13 : lw_okq (⟨"EclipseCheese$Reader", "takeWhole", "(II)Z"⟩, 17) := ⟨⟨by decide +kernel, by decide +kernel⟩, List.mem_of_getElem? (i := 233) (by decide +kernel), List.mem_of_getElem? (i := 643) (by decide +kernel), List.mem_of_getElem? (i := 644) (by decide +kernel)⟩
theorem lw_p14 : lw_okq (⟨"EclipseCheese$Reader", "seesWhole", "(II)Z"⟩, 17) := ⟨⟨by decide +kernel, by decide +kernel⟩, List.mem_of_getElem? (i := 233) (by decide +kernel), List.mem_of_getElem? (i := 647) (by decide +kernel), List.mem_of_getElem? (i := 648) (by decide +kernel)⟩
theorem lw_p15 : lw_okq (⟨"EclipseCheese$Reader", "takeComma", "()Z"⟩, 17) := ⟨⟨by decide +kernel, by decide +kernel⟩, List.mem_of_getElem? (i := 233) (by decide +kernel), List.mem_of_getElem? (i := 653) (by decide +kernel), List.mem_of_getElem? (i := 654) (by decide +kernel)⟩
def lw_privs_1 : List (MethodName × Nat) := [(⟨"EclipseCheese", "putBytes", "(I)V"⟩, 18), (⟨"EclipseCheese", "refused", "(I)I"⟩, 18), (⟨"EclipseCheese$Reader", "step", "()V"⟩, 17), (⟨"EclipseCheese$Reader", "stepWord", "()I"⟩, 17), (⟨"EclipseCheese$Reader", "stepWhole", "()I"⟩, 17), (⟨"EclipseCheese$Reader", "readLine", "()Z"⟩, 17), (⟨"EclipseCheese$Reader", "sortOfWord", "()I"⟩, 17), (⟨"EclipseCheese$Reader", "fail", "(I)Z"⟩, 17), (⟨"EclipseCheese$Reader", "isToldAgain", "(I)Z"⟩, 17), (⟨"EclipseCheese$Reader", "isFull", "(I)Z"⟩, 17), (⟨"EclipseCheese$Reader", "readAlp", "()Z"⟩, 17), (⟨"EclipseCheese$Reader", "takeWord", "(Ljava/lang/String;)Z"⟩, 17), (⟨"EclipseCheese$Reader", "seesWord", "(Ljava/lang/String;)Z"⟩, 17), (⟨"EclipseCheese$Reader", "takeWhole", "(II)Z"⟩, 17), (⟨"EclipseCheese$Reader", "seesWhole", "(II)Z"⟩, 17), (⟨"EclipseCheese$Reader", "takeComma", "()Z"⟩, 17)]
theorem lw_r1 : ∀ q ∈ lw_privs_1, lw_okq q := List.forall_mem_cons.mpr ⟨lw_p0, List.forall_mem_cons.mpr ⟨lw_p1, List.forall_mem_cons.mpr ⟨lw_p2, List.forall_mem_cons.mpr ⟨lw_p3, List.forall_mem_cons.mpr ⟨lw_p4, List.forall_mem_cons.mpr ⟨lw_p5, List.forall_mem_cons.mpr ⟨lw_p6, List.forall_mem_cons.mpr ⟨lw_p7, List.forall_mem_cons.mpr ⟨lw_p8, List.forall_mem_cons.mpr ⟨lw_p9, List.forall_mem_cons.mpr ⟨lw_p10, List.forall_mem_cons.mpr ⟨lw_p11, List.forall_mem_cons.mpr ⟨lw_p12, List.forall_mem_cons.mpr ⟨lw_p13, List.forall_mem_cons.mpr ⟨lw_p14, List.forall_mem_cons.mpr ⟨lw_p15, fun _ h => absurd h List.not_mem_nil⟩⟩⟩⟩⟩⟩⟩⟩⟩⟩⟩⟩⟩⟩⟩⟩
theorem lw_p16 : lw_okq (⟨"EclipseCheese$Reader", "readCheese", "()Z"⟩, 17) := ⟨⟨by decide +kernel, by decide +kernel⟩, List.mem_of_getElem? (i := 233) (by decide +kernel), List.mem_of_getElem? (i := 657) (by decide +kernel), List.mem_of_getElem? (i := 658) (by decide +kernel)⟩
theorem lw_p17 : lw_okq (⟨"EclipseCheese$Reader", "seesNewName", "()Z"⟩, 17) := ⟨⟨by decide +kernel, by decide +kernel⟩, List.mem_of_getElem? (i := 233) (by decide +kernel), List.mem_of_getElem? (i := 661) (by decide +kernel), List.mem_of_getElem? (i := 662) (by decide +kernel)⟩
theorem lw_p18 : lw_okq (⟨"EclipseCheese$Reader", "seesName", "()Z"⟩, 17) := ⟨⟨by decide +kernel, by decide +kernel⟩, List.mem_of_getElem? (i := 233) (by decide +kernel), List.mem_of_getElem? (i := 665) (by decide +kernel), List.mem_of_getElem? (i := 666) (by decide +kernel)⟩
theorem lw_p19 : lw_okq (⟨"EclipseCheese$Reader", "isToldCheese", "()Z"⟩, 17) := ⟨⟨by decide +kernel, by decide +kernel⟩, List.mem_of_getElem? (i := 233) (by decide +kernel), List.mem_of_getElem? (i := 670) (by decide +kernel), List.mem_of_getElem? (i := 671) (by decide +kernel)⟩
theorem lw_p20 : lw_okq (⟨"EclipseCheese$Reader", "namedTurner", "()I"⟩, 17) := ⟨⟨by decide +kernel, by decide +kernel⟩, List.mem_of_getElem? (i := 233) (by decide +kernel), List.mem_of_getElem? (i := 674) (by decide +kernel), List.mem_of_getElem? (i := 675) (by decide +kernel)⟩
theorem lw_p21 : lw_okq (⟨"EclipseCheese$Reader", "takeHut", "()Z"⟩, 17) := ⟨⟨by decide +kernel, by decide +kernel⟩, List.mem_of_getElem? (i := 233) (by decide +kernel), List.mem_of_getElem? (i := 679) (by decide +kernel), List.mem_of_getElem? (i := 680) (by decide +kernel)⟩
theorem lw_p22 : lw_okq (⟨"EclipseCheese$Reader", "readMinutes", "(LEclipseCheese$Minutes;)Z"⟩, 17) := ⟨⟨by decide +kernel, by decide +kernel⟩, List.mem_of_getElem? (i := 233) (by decide +kernel), List.mem_of_getElem? (i := 683) (by decide +kernel), List.mem_of_getElem? (i := 684) (by decide +kernel)⟩
theorem lw_p23 : lw_okq (⟨"EclipseCheese$Reader", "readTurner", "()Z"⟩, 17) := ⟨⟨by decide +kernel, by decide +kernel⟩, List.mem_of_getElem? (i := 233) (by decide +kernel), List.mem_of_getElem? (i := 687) (by decide +kernel), List.mem_of_getElem? (i := 688) (by decide +kernel)⟩
theorem lw_p24 : lw_okq (⟨"EclipseCheese$Reader", "turnerKind", "()I"⟩, 17) := ⟨⟨by decide +kernel, by decide +kernel⟩, List.mem_of_getElem? (i := 233) (by decide +kernel), List.mem_of_getElem? (i := 691) (by decide +kernel), List.mem_of_getElem? (i := 692) (by decide +kernel)⟩
theorem lw_p25 : lw_okq (⟨"EclipseCheese$Reader", "takeSpan", "()Z"⟩, 17) := ⟨⟨by decide +kernel, by decide +kernel⟩, List.mem_of_getElem? (i := 233) (by decide +kernel), List.mem_of_getElem? (i := 699) (by decide +kernel), List.mem_of_getElem? (i := 700) (by decide +kernel)⟩
theorem lw_p26 : lw_okq (⟨"EclipseCheese$Reader", "readHuts", "(LEclipseCheese$Turner;)Z"⟩, 17) := ⟨⟨by decide +kernel, by decide +kernel⟩, List.mem_of_getElem? (i := 233) (by decide +kernel), List.mem_of_getElem? (i := 706) (by decide +kernel), List.mem_of_getElem? (i := 707) (by decide +kernel)⟩
theorem lw_p27 : lw_okq (⟨"EclipseCheese$Reader", "readCall", "()Z"⟩, 17) := ⟨⟨by decide +kernel, by decide +kernel⟩, List.mem_of_getElem? (i := 233) (by decide +kernel), List.mem_of_getElem? (i := 713) (by decide +kernel), List.mem_of_getElem? (i := 714) (by decide +kernel)⟩
theorem lw_p28 : lw_okq (⟨"EclipseCheese$Reader", "readEvent", "(I)Z"⟩, 17) := ⟨⟨by decide +kernel, by decide +kernel⟩, List.mem_of_getElem? (i := 233) (by decide +kernel), List.mem_of_getElem? (i := 720) (by decide +kernel), List.mem_of_getElem? (i := 721) (by decide +kernel)⟩
theorem lw_p29 : lw_okq (⟨"EclipseCheese", "cloudsMoved", "()V"⟩, 18) := ⟨⟨by decide +kernel, by decide +kernel⟩, List.mem_of_getElem? (i := 26) (by decide +kernel), List.mem_of_getElem? (i := 732) (by decide +kernel), List.mem_of_getElem? (i := 733) (by decide +kernel)⟩
theorem lw_p30 : lw_okq (⟨"EclipseCheese", "answered", "(I)I"⟩, 18) := ⟨⟨by decide +kernel, by decide +kernel⟩, List.mem_of_getElem? (i := 26) (by decide +kernel), List.mem_of_getElem? (i := 736) (by decide +kernel), List.mem_of_getElem? (i := 737) (by decide +kernel)⟩
theorem lw_p31 : lw_okq (⟨"EclipseCheese", "isMinute", "(I)Z"⟩, 18) := ⟨⟨by decide +kernel, by decide +kernel⟩, List.mem_of_getElem? (i := 26) (by decide +kernel), List.mem_of_getElem? (i := 752) (by decide +kernel), List.mem_of_getElem? (i := 753) (by decide +kernel)⟩
def lw_privs_2 : List (MethodName × Nat) := [(⟨"EclipseCheese$Reader", "readCheese", "()Z"⟩, 17), (⟨"EclipseCheese$Reader", "seesNewName", "()Z"⟩, 17), (⟨"EclipseCheese$Reader", "seesName", "()Z"⟩, 17), (⟨"EclipseCheese$Reader", "isToldCheese", "()Z"⟩, 17), (⟨"EclipseCheese$Reader", "namedTurner", "()I"⟩, 17), (⟨"EclipseCheese$Reader", "takeHut", "()Z"⟩, 17), (⟨"EclipseCheese$Reader", "readMinutes", "(LEclipseCheese$Minutes;)Z"⟩, 17), (⟨"EclipseCheese$Reader", "readTurner", "()Z"⟩, 17), (⟨"EclipseCheese$Reader", "turnerKind", "()I"⟩, 17), (⟨"EclipseCheese$Reader", "takeSpan", "()Z"⟩, 17), (⟨"EclipseCheese$Reader", "readHuts", "(LEclipseCheese$Turner;)Z"⟩, 17), (⟨"EclipseCheese$Reader", "readCall", "()Z"⟩, 17), (⟨"EclipseCheese$Reader", "readEvent", "(I)Z"⟩, 17), (⟨"EclipseCheese", "cloudsMoved", "()V"⟩, 18), (⟨"EclipseCheese", "answered", "(I)I"⟩, 18), (⟨"EclipseCheese", "isMinute", "(I)Z"⟩, 18)]
theorem lw_r2 : ∀ q ∈ lw_privs_2, lw_okq q := List.forall_mem_cons.mpr ⟨lw_p16, List.forall_mem_cons.mpr ⟨lw_p17, List.forall_mem_cons.mpr ⟨lw_p18, List.forall_mem_cons.mpr ⟨lw_p19, List.forall_mem_cons.mpr ⟨lw_p20, List.forall_mem_cons.mpr ⟨lw_p21, List.forall_mem_cons.mpr ⟨lw_p22, List.forall_mem_cons.mpr ⟨lw_p23, List.forall_mem_cons.mpr ⟨lw_p24, List.forall_mem_cons.mpr ⟨lw_p25, List.forall_mem_cons.mpr ⟨lw_p26, List.forall_mem_cons.mpr ⟨lw_p27, List.forall_mem_cons.mpr ⟨lw_p28, List.forall_mem_cons.mpr ⟨lw_p29, List.forall_mem_cons.mpr ⟨lw_p30, List.forall_mem_cons.mpr ⟨lw_p31, fun _ h => absurd h List.not_mem_nil⟩⟩⟩⟩⟩⟩⟩⟩⟩⟩⟩⟩⟩⟩⟩⟩
theorem lw_p32 : lw_okq (⟨"EclipseCheese", "presentSky", "()LEclipseCheese$Sky;"⟩, 18) := ⟨⟨by decide +kernel, by decide +kernel⟩, List.mem_of_getElem? (i := 26) (by decide +kernel), List.mem_of_getElem? (i := 756) (by decide +kernel), List.mem_of_getElem? (i := 757) (by decide +kernel)⟩
theorem lw_p33 : lw_okq (⟨"EclipseCheese$Sky", "wipe", "()V"⟩, 12) := ⟨⟨by decide +kernel, by decide +kernel⟩, List.mem_of_getElem? (i := 348) (by decide +kernel), List.mem_of_getElem? (i := 764) (by decide +kernel), List.mem_of_getElem? (i := 765) (by decide +kernel)⟩
theorem lw_p34 : lw_okq (⟨"EclipseCheese$Sky", "layEvent", "(LEclipseCheese$Event;)V"⟩, 12) := ⟨⟨by decide +kernel, by decide +kernel⟩, List.mem_of_getElem? (i := 348) (by decide +kernel), List.mem_of_getElem? (i := 768) (by decide +kernel), List.mem_of_getElem? (i := 769) (by decide +kernel)⟩
theorem lw_p35 : lw_okq (⟨"EclipseCheese$Sky", "layCloud", "(II)V"⟩, 12) := ⟨⟨by decide +kernel, by decide +kernel⟩, List.mem_of_getElem? (i := 348) (by decide +kernel), List.mem_of_getElem? (i := 772) (by decide +kernel), List.mem_of_getElem? (i := 773) (by decide +kernel)⟩
theorem lw_p36 : lw_okq (⟨"EclipseCheese$Sky", "findLight", "()V"⟩, 12) := ⟨⟨by decide +kernel, by decide +kernel⟩, List.mem_of_getElem? (i := 348) (by decide +kernel), List.mem_of_getElem? (i := 776) (by decide +kernel), List.mem_of_getElem? (i := 777) (by decide +kernel)⟩
theorem lw_p37 : lw_okq (⟨"EclipseCheese$Sky", "findStirs", "(LEclipseCheese$Minutes;)V"⟩, 12) := ⟨⟨by decide +kernel, by decide +kernel⟩, List.mem_of_getElem? (i := 348) (by decide +kernel), List.mem_of_getElem? (i := 784) (by decide +kernel), List.mem_of_getElem? (i := 785) (by decide +kernel)⟩
theorem lw_p38 : lw_okq (⟨"EclipseCheese", "isHut", "(I)Z"⟩, 18) := ⟨⟨by decide +kernel, by decide +kernel⟩, List.mem_of_getElem? (i := 26) (by decide +kernel), List.mem_of_getElem? (i := 797) (by decide +kernel), List.mem_of_getElem? (i := 798) (by decide +kernel)⟩
theorem lw_p39 : lw_okq (⟨"EclipseCheese", "isTurner", "(I)Z"⟩, 18) := ⟨⟨by decide +kernel, by decide +kernel⟩, List.mem_of_getElem? (i := 26) (by decide +kernel), List.mem_of_getElem? (i := 827) (by decide +kernel), List.mem_of_getElem? (i := 828) (by decide +kernel)⟩
theorem lw_p40 : lw_okq (⟨"EclipseCheese", "presentNight", "()LEclipseCheese$Night;"⟩, 18) := ⟨⟨by decide +kernel, by decide +kernel⟩, List.mem_of_getElem? (i := 26) (by decide +kernel), List.mem_of_getElem? (i := 831) (by decide +kernel), List.mem_of_getElem? (i := 832) (by decide +kernel)⟩
theorem lw_p41 : lw_okq (⟨"EclipseCheese", "allTurners", "()I"⟩, 18) := ⟨⟨by decide +kernel, by decide +kernel⟩, List.mem_of_getElem? (i := 26) (by decide +kernel), List.mem_of_getElem? (i := 835) (by decide +kernel), List.mem_of_getElem? (i := 836) (by decide +kernel)⟩
theorem lw_p42 : lw_okq (⟨"EclipseCheese$Night", "forget", "()V"⟩, 12) := ⟨⟨by decide +kernel, by decide +kernel⟩, List.mem_of_getElem? (i := 402) (by decide +kernel), List.mem_of_getElem? (i := 843) (by decide +kernel), List.mem_of_getElem? (i := 844) (by decide +kernel)⟩
theorem lw_p43 : lw_okq (⟨"EclipseCheese$Night", "turnAll", "(II)I"⟩, 12) := ⟨⟨by decide +kernel, by decide +kernel⟩, List.mem_of_getElem? (i := 402) (by decide +kernel), List.mem_of_getElem? (i := 850) (by decide +kernel), List.mem_of_getElem? (i := 851) (by decide +kernel)⟩
theorem lw_p44 : lw_okq (⟨"EclipseCheese$Night", "isCalled", "(II)Z"⟩, 12) := ⟨⟨by decide +kernel, by decide +kernel⟩, List.mem_of_getElem? (i := 402) (by decide +kernel), List.mem_of_getElem? (i := 864) (by decide +kernel), List.mem_of_getElem? (i := 865) (by decide +kernel)⟩
theorem lw_p45 : lw_okq (⟨"EclipseCheese$Night", "turnSome", "(IIII)I"⟩, 12) := ⟨⟨by decide +kernel, by decide +kernel⟩, List.mem_of_getElem? (i := 402) (by decide +kernel), List.mem_of_getElem? (i := 868) (by decide +kernel), List.mem_of_getElem? (i := 869) (by decide +kernel)⟩
theorem lw_p46 : lw_okq (⟨"EclipseCheese$Night", "judge", "(III)V"⟩, 12) := ⟨⟨by decide +kernel, by decide +kernel⟩, List.mem_of_getElem? (i := 402) (by decide +kernel), List.mem_of_getElem? (i := 872) (by decide +kernel), List.mem_of_getElem? (i := 873) (by decide +kernel)⟩
theorem lw_p47 : lw_okq (⟨"EclipseCheese", "refusedTotal", "(I)I"⟩, 18) := ⟨⟨by decide +kernel, by decide +kernel⟩, List.mem_of_getElem? (i := 26) (by decide +kernel), List.mem_of_getElem? (i := 898) (by decide +kernel), List.mem_of_getElem? (i := 899) (by decide +kernel)⟩
def lw_privs_3 : List (MethodName × Nat) := [(⟨"EclipseCheese", "presentSky", "()LEclipseCheese$Sky;"⟩, 18), (⟨"EclipseCheese$Sky", "wipe", "()V"⟩, 12), (⟨"EclipseCheese$Sky", "layEvent", "(LEclipseCheese$Event;)V"⟩, 12), (⟨"EclipseCheese$Sky", "layCloud", "(II)V"⟩, 12), (⟨"EclipseCheese$Sky", "findLight", "()V"⟩, 12), (⟨"EclipseCheese$Sky", "findStirs", "(LEclipseCheese$Minutes;)V"⟩, 12), (⟨"EclipseCheese", "isHut", "(I)Z"⟩, 18), (⟨"EclipseCheese", "isTurner", "(I)Z"⟩, 18), (⟨"EclipseCheese", "presentNight", "()LEclipseCheese$Night;"⟩, 18), (⟨"EclipseCheese", "allTurners", "()I"⟩, 18), (⟨"EclipseCheese$Night", "forget", "()V"⟩, 12), (⟨"EclipseCheese$Night", "turnAll", "(II)I"⟩, 12), (⟨"EclipseCheese$Night", "isCalled", "(II)Z"⟩, 12), (⟨"EclipseCheese$Night", "turnSome", "(IIII)I"⟩, 12), (⟨"EclipseCheese$Night", "judge", "(III)V"⟩, 12), (⟨"EclipseCheese", "refusedTotal", "(I)I"⟩, 18)]
theorem lw_r3 : ∀ q ∈ lw_privs_3, lw_okq q := List.forall_mem_cons.mpr ⟨lw_p32, List.forall_mem_cons.mpr ⟨lw_p33, List.forall_mem_cons.mpr ⟨lw_p34, List.forall_mem_cons.mpr ⟨lw_p35, List.forall_mem_cons.mpr ⟨lw_p36, List.forall_mem_cons.mpr ⟨lw_p37, List.forall_mem_cons.mpr ⟨lw_p38, List.forall_mem_cons.mpr ⟨lw_p39, List.forall_mem_cons.mpr ⟨lw_p40, List.forall_mem_cons.mpr ⟨lw_p41, List.forall_mem_cons.mpr ⟨lw_p42, List.forall_mem_cons.mpr ⟨lw_p43, List.forall_mem_cons.mpr ⟨lw_p44, List.forall_mem_cons.mpr ⟨lw_p45, List.forall_mem_cons.mpr ⟨lw_p46, List.forall_mem_cons.mpr ⟨lw_p47, fun _ h => absurd h List.not_mem_nil⟩⟩⟩⟩⟩⟩⟩⟩⟩⟩⟩⟩⟩⟩⟩⟩
theorem lw_p48 : lw_okq (⟨"EclipseCheese", "isCheese", "(I)Z"⟩, 18) := ⟨⟨by decide +kernel, by decide +kernel⟩, List.mem_of_getElem? (i := 26) (by decide +kernel), List.mem_of_getElem? (i := 922) (by decide +kernel), List.mem_of_getElem? (i := 923) (by decide +kernel)⟩
theorem lw_p49 : lw_okq (⟨"EclipseCheese$Night", "isTurned", "(II)Z"⟩, 12) := ⟨⟨by decide +kernel, by decide +kernel⟩, List.mem_of_getElem? (i := 402) (by decide +kernel), List.mem_of_getElem? (i := 938) (by decide +kernel), List.mem_of_getElem? (i := 939) (by decide +kernel)⟩
theorem lw_p50 : lw_okq (⟨"EclipseCheese", "veinMinute", "(II)I"⟩, 18) := ⟨⟨by decide +kernel, by decide +kernel⟩, List.mem_of_getElem? (i := 26) (by decide +kernel), List.mem_of_getElem? (i := 952) (by decide +kernel), List.mem_of_getElem? (i := 953) (by decide +kernel)⟩
theorem lw_p51 : lw_okq (⟨"EclipseCheese", "eventCount", "()I"⟩, 18) := ⟨⟨by decide +kernel, by decide +kernel⟩, List.mem_of_getElem? (i := 26) (by decide +kernel), List.mem_of_getElem? (i := 964) (by decide +kernel), List.mem_of_getElem? (i := 965) (by decide +kernel)⟩
theorem lw_p52 : lw_okq (⟨"EclipseCheese", "eventFrom", "(I)I"⟩, 18) := ⟨⟨by decide +kernel, by decide +kernel⟩, List.mem_of_getElem? (i := 26) (by decide +kernel), List.mem_of_getElem? (i := 968) (by decide +kernel), List.mem_of_getElem? (i := 969) (by decide +kernel)⟩
theorem lw_p53 : lw_okq (⟨"EclipseCheese", "eventTo", "(I)I"⟩, 18) := ⟨⟨by decide +kernel, by decide +kernel⟩, List.mem_of_getElem? (i := 26) (by decide +kernel), List.mem_of_getElem? (i := 972) (by decide +kernel), List.mem_of_getElem? (i := 973) (by decide +kernel)⟩
theorem lw_p54 : lw_okq (⟨"EclipseCheese", "isEvent", "(I)Z"⟩, 18) := ⟨⟨by decide +kernel, by decide +kernel⟩, List.mem_of_getElem? (i := 26) (by decide +kernel), List.mem_of_getElem? (i := 984) (by decide +kernel), List.mem_of_getElem? (i := 985) (by decide +kernel)⟩
theorem lw_p55 : lw_okq (⟨"EclipseCheese", "bestCalls", "()I"⟩, 18) := ⟨⟨by decide +kernel, by decide +kernel⟩, List.mem_of_getElem? (i := 26) (by decide +kernel), List.mem_of_getElem? (i := 992) (by decide +kernel), List.mem_of_getElem? (i := 993) (by decide +kernel)⟩
theorem lw_p56 : lw_okq (⟨"EclipseCheese", "allCalls", "()I"⟩, 18) := ⟨⟨by decide +kernel, by decide +kernel⟩, List.mem_of_getElem? (i := 26) (by decide +kernel), List.mem_of_getElem? (i := 996) (by decide +kernel), List.mem_of_getElem? (i := 997) (by decide +kernel)⟩
theorem lw_p57 : lw_okq (⟨"EclipseCheese", "fewestTurners", "()I"⟩, 18) := ⟨⟨by decide +kernel, by decide +kernel⟩, List.mem_of_getElem? (i := 26) (by decide +kernel), List.mem_of_getElem? (i := 1014) (by decide +kernel), List.mem_of_getElem? (i := 1015) (by decide +kernel)⟩
theorem lw_p58 : lw_okq (⟨"EclipseCheese", "isSlice", "(I)Z"⟩, 18) := ⟨⟨by decide +kernel, by decide +kernel⟩, List.mem_of_getElem? (i := 26) (by decide +kernel), List.mem_of_getElem? (i := 1030) (by decide +kernel), List.mem_of_getElem? (i := 1031) (by decide +kernel)⟩
theorem lw_p59 : lw_okq (⟨"EclipseCheese$Night", "hasJustVeins", "(ILEclipseCheese$Minutes;)Z"⟩, 12) := ⟨⟨by decide +kernel, by decide +kernel⟩, List.mem_of_getElem? (i := 402) (by decide +kernel), List.mem_of_getElem? (i := 1038) (by decide +kernel), List.mem_of_getElem? (i := 1039) (by decide +kernel)⟩
theorem lw_p60 : lw_okq (⟨"EclipseCheese$Held", "drawBelow", "(I)I"⟩, 5) := ⟨⟨by decide +kernel, by decide +kernel⟩, List.mem_of_getElem? (i := 294) (by decide +kernel), List.mem_of_getElem? (i := 1058) (by decide +kernel), List.mem_of_getElem? (i := 1059) (by decide +kernel)⟩
theorem lw_p61 : lw_okq (⟨"EclipseCheese", "refusedAct", "(I)Z"⟩, 18) := ⟨⟨by decide +kernel, by decide +kernel⟩, List.mem_of_getElem? (i := 26) (by decide +kernel), List.mem_of_getElem? (i := 1074) (by decide +kernel), List.mem_of_getElem? (i := 1075) (by decide +kernel)⟩
theorem lw_p62 : lw_okq (⟨"EclipseCheese$Past", "dropOldestAct", "()V"⟩, 4) := ⟨⟨by decide +kernel, by decide +kernel⟩, List.mem_of_getElem? (i := 324) (by decide +kernel), List.mem_of_getElem? (i := 1082) (by decide +kernel), List.mem_of_getElem? (i := 1083) (by decide +kernel)⟩
theorem lw_p63 : lw_okq (⟨"EclipseCheese", "allowed", "()Z"⟩, 18) := ⟨⟨by decide +kernel, by decide +kernel⟩, List.mem_of_getElem? (i := 26) (by decide +kernel), List.mem_of_getElem? (i := 1090) (by decide +kernel), List.mem_of_getElem? (i := 1091) (by decide +kernel)⟩
def lw_privs_4 : List (MethodName × Nat) := [(⟨"EclipseCheese", "isCheese", "(I)Z"⟩, 18), (⟨"EclipseCheese$Night", "isTurned", "(II)Z"⟩, 12), (⟨"EclipseCheese", "veinMinute", "(II)I"⟩, 18), (⟨"EclipseCheese", "eventCount", "()I"⟩, 18), (⟨"EclipseCheese", "eventFrom", "(I)I"⟩, 18), (⟨"EclipseCheese", "eventTo", "(I)I"⟩, 18), (⟨"EclipseCheese", "isEvent", "(I)Z"⟩, 18), (⟨"EclipseCheese", "bestCalls", "()I"⟩, 18), (⟨"EclipseCheese", "allCalls", "()I"⟩, 18), (⟨"EclipseCheese", "fewestTurners", "()I"⟩, 18), (⟨"EclipseCheese", "isSlice", "(I)Z"⟩, 18), (⟨"EclipseCheese$Night", "hasJustVeins", "(ILEclipseCheese$Minutes;)Z"⟩, 12), (⟨"EclipseCheese$Held", "drawBelow", "(I)I"⟩, 5), (⟨"EclipseCheese", "refusedAct", "(I)Z"⟩, 18), (⟨"EclipseCheese$Past", "dropOldestAct", "()V"⟩, 4), (⟨"EclipseCheese", "allowed", "()Z"⟩, 18)]
theorem lw_r4 : ∀ q ∈ lw_privs_4, lw_okq q := List.forall_mem_cons.mpr ⟨lw_p48, List.forall_mem_cons.mpr ⟨lw_p49, List.forall_mem_cons.mpr ⟨lw_p50, List.forall_mem_cons.mpr ⟨lw_p51, List.forall_mem_cons.mpr ⟨lw_p52, List.forall_mem_cons.mpr ⟨lw_p53, List.forall_mem_cons.mpr ⟨lw_p54, List.forall_mem_cons.mpr ⟨lw_p55, List.forall_mem_cons.mpr ⟨lw_p56, List.forall_mem_cons.mpr ⟨lw_p57, List.forall_mem_cons.mpr ⟨lw_p58, List.forall_mem_cons.mpr ⟨lw_p59, List.forall_mem_cons.mpr ⟨lw_p60, List.forall_mem_cons.mpr ⟨lw_p61, List.forall_mem_cons.mpr ⟨lw_p62, List.forall_mem_cons.mpr ⟨lw_p63, fun _ h => absurd h List.not_mem_nil⟩⟩⟩⟩⟩⟩⟩⟩⟩⟩⟩⟩⟩⟩⟩⟩
theorem lw_p64 : lw_okq (⟨"java/lang/Throwable", "fillInStackTrace", "(I)Ljava/lang/Throwable;"⟩, 6) := ⟨⟨by decide +kernel, by decide +kernel⟩, List.mem_of_getElem? (i := 1195) (by decide +kernel), List.mem_of_getElem? (i := 1193) (by decide +kernel), List.mem_of_getElem? (i := 1194) (by decide +kernel)⟩
theorem lw_p65 : lw_okq (⟨"EclipseCheeseModel", "refused", "(I)I"⟩, 36) := ⟨⟨by decide +kernel, by decide +kernel⟩, List.mem_of_getElem? (i := 1224) (by decide +kernel), List.mem_of_getElem? (i := 1351) (by decide +kernel), List.mem_of_getElem? (i := 1352) (by decide +kernel)⟩
theorem lw_p66 : lw_okq (⟨"EclipseCheeseModel", "goesOn", "()V"⟩, 36) := ⟨⟨by decide +kernel, by decide +kernel⟩, List.mem_of_getElem? (i := 1224) (by decide +kernel), List.mem_of_getElem? (i := 1485) (by decide +kernel), List.mem_of_getElem? (i := 1486) (by decide +kernel)⟩
theorem lw_p67 : lw_okq (⟨"EclipseCheeseModel", "byteAt", "(I)I"⟩, 36) := ⟨⟨by decide +kernel, by decide +kernel⟩, List.mem_of_getElem? (i := 1224) (by decide +kernel), List.mem_of_getElem? (i := 1489) (by decide +kernel), List.mem_of_getElem? (i := 1490) (by decide +kernel)⟩
theorem lw_p68 : lw_okq (⟨"EclipseCheeseModel", "readAll", "()V"⟩, 36) := ⟨⟨by decide +kernel, by decide +kernel⟩, List.mem_of_getElem? (i := 1224) (by decide +kernel), List.mem_of_getElem? (i := 1500) (by decide +kernel), List.mem_of_getElem? (i := 1501) (by decide +kernel)⟩
theorem lw_p69 : lw_okq (⟨"EclipseCheeseModel", "readLine", "()V"⟩, 36) := ⟨⟨by decide +kernel, by decide +kernel⟩, List.mem_of_getElem? (i := 1224) (by decide +kernel), List.mem_of_getElem? (i := 1504) (by decide +kernel), List.mem_of_getElem? (i := 1505) (by decide +kernel)⟩
theorem lw_p70 : lw_okq (⟨"EclipseCheeseModel", "isWord", "(Ljava/lang/String;)Z"⟩, 36) := ⟨⟨by decide +kernel, by decide +kernel⟩, List.mem_of_getElem? (i := 1224) (by decide +kernel), List.mem_of_getElem? (i := 1509) (by decide +kernel), List.mem_of_getElem? (i := 1510) (by decide +kernel)⟩
theorem lw_p71 : lw_okq (⟨"EclipseCheeseModel", "readAlp", "()V"⟩, 36) := ⟨⟨by decide +kernel, by decide +kernel⟩, List.mem_of_getElem? (i := 1224) (by decide +kernel), List.mem_of_getElem? (i := 1518) (by decide +kernel), List.mem_of_getElem? (i := 1519) (by decide +kernel)⟩
theorem lw_p72 : lw_okq (⟨"EclipseCheeseModel", "flaw", "(I)V"⟩, 36) := ⟨⟨by decide +kernel, by decide +kernel⟩, List.mem_of_getElem? (i := 1224) (by decide +kernel), List.mem_of_getElem? (i := 1522) (by decide +kernel), List.mem_of_getElem? (i := 1523) (by decide +kernel)⟩
theorem lw_p73 : lw_okq (⟨"EclipseCheeseModel", "readPart", "(Ljava/lang/String;II)I"⟩, 36) := ⟨⟨by decide +kernel, by decide +kernel⟩, List.mem_of_getElem? (i := 1224) (by decide +kernel), List.mem_of_getElem? (i := 1527) (by decide +kernel), List.mem_of_getElem? (i := 1528) (by decide +kernel)⟩
theorem lw_p74 : lw_okq (⟨"EclipseCheeseModel", "needs", "(Ljava/lang/String;)V"⟩, 36) := ⟨⟨by decide +kernel, by decide +kernel⟩, List.mem_of_getElem? (i := 1224) (by decide +kernel), List.mem_of_getElem? (i := 1531) (by decide +kernel), List.mem_of_getElem? (i := 1532) (by decide +kernel)⟩
theorem lw_p75 : lw_okq (⟨"EclipseCheeseModel", "readWhole", "(II)I"⟩, 36) := ⟨⟨by decide +kernel, by decide +kernel⟩, List.mem_of_getElem? (i := 1224) (by decide +kernel), List.mem_of_getElem? (i := 1535) (by decide +kernel), List.mem_of_getElem? (i := 1536) (by decide +kernel)⟩
theorem lw_p76 : lw_okq (⟨"EclipseCheeseModel", "bounded", "(II)I"⟩, 36) := ⟨⟨by decide +kernel, by decide +kernel⟩, List.mem_of_getElem? (i := 1224) (by decide +kernel), List.mem_of_getElem? (i := 1539) (by decide +kernel), List.mem_of_getElem? (i := 1540) (by decide +kernel)⟩
theorem lw_p77 : lw_okq (⟨"EclipseCheeseModel", "needsSign", "(I)V"⟩, 36) := ⟨⟨by decide +kernel, by decide +kernel⟩, List.mem_of_getElem? (i := 1224) (by decide +kernel), List.mem_of_getElem? (i := 1548) (by decide +kernel), List.mem_of_getElem? (i := 1549) (by decide +kernel)⟩
theorem lw_p78 : lw_okq (⟨"EclipseCheeseModel", "readEvent", "(I)V"⟩, 36) := ⟨⟨by decide +kernel, by decide +kernel⟩, List.mem_of_getElem? (i := 1224) (by decide +kernel), List.mem_of_getElem? (i := 1553) (by decide +kernel), List.mem_of_getElem? (i := 1554) (by decide +kernel)⟩
theorem lw_p79 : lw_okq (⟨"EclipseCheeseModel", "begins", "(II)V"⟩, 36) := ⟨⟨by decide +kernel, by decide +kernel⟩, List.mem_of_getElem? (i := 1224) (by decide +kernel), List.mem_of_getElem? (i := 1557) (by decide +kernel), List.mem_of_getElem? (i := 1558) (by decide +kernel)⟩
def lw_privs_5 : List (MethodName × Nat) := [(⟨"java/lang/Throwable", "fillInStackTrace", "(I)Ljava/lang/Throwable;"⟩, 6), (⟨"EclipseCheeseModel", "refused", "(I)I"⟩, 36), (⟨"EclipseCheeseModel", "goesOn", "()V"⟩, 36), (⟨"EclipseCheeseModel", "byteAt", "(I)I"⟩, 36), (⟨"EclipseCheeseModel", "readAll", "()V"⟩, 36), (⟨"EclipseCheeseModel", "readLine", "()V"⟩, 36), (⟨"EclipseCheeseModel", "isWord", "(Ljava/lang/String;)Z"⟩, 36), (⟨"EclipseCheeseModel", "readAlp", "()V"⟩, 36), (⟨"EclipseCheeseModel", "flaw", "(I)V"⟩, 36), (⟨"EclipseCheeseModel", "readPart", "(Ljava/lang/String;II)I"⟩, 36), (⟨"EclipseCheeseModel", "needs", "(Ljava/lang/String;)V"⟩, 36), (⟨"EclipseCheeseModel", "readWhole", "(II)I"⟩, 36), (⟨"EclipseCheeseModel", "bounded", "(II)I"⟩, 36), (⟨"EclipseCheeseModel", "needsSign", "(I)V"⟩, 36), (⟨"EclipseCheeseModel", "readEvent", "(I)V"⟩, 36), (⟨"EclipseCheeseModel", "begins", "(II)V"⟩, 36)]
theorem lw_r5 : ∀ q ∈ lw_privs_5, lw_okq q := List.forall_mem_cons.mpr ⟨lw_p64, List.forall_mem_cons.mpr ⟨lw_p65, List.forall_mem_cons.mpr ⟨lw_p66, List.forall_mem_cons.mpr ⟨lw_p67, List.forall_mem_cons.mpr ⟨lw_p68, List.forall_mem_cons.mpr ⟨lw_p69, List.forall_mem_cons.mpr ⟨lw_p70, List.forall_mem_cons.mpr ⟨lw_p71, List.forall_mem_cons.mpr ⟨lw_p72, List.forall_mem_cons.mpr ⟨lw_p73, List.forall_mem_cons.mpr ⟨lw_p74, List.forall_mem_cons.mpr ⟨lw_p75, List.forall_mem_cons.mpr ⟨lw_p76, List.forall_mem_cons.mpr ⟨lw_p77, List.forall_mem_cons.mpr ⟨lw_p78, List.forall_mem_cons.mpr ⟨lw_p79, fun _ h => absurd h List.not_mem_nil⟩⟩⟩⟩⟩⟩⟩⟩⟩⟩⟩⟩⟩⟩⟩⟩
theorem lw_p80 : lw_okq (⟨"EclipseCheeseModel", "readCheese", "()V"⟩, 36) := ⟨⟨by decide +kernel, by decide +kernel⟩, List.mem_of_getElem? (i := 1224) (by decide +kernel), List.mem_of_getElem? (i := 1567) (by decide +kernel), List.mem_of_getElem? (i := 1568) (by decide +kernel)⟩
theorem lw_p81 : lw_okq (⟨"EclipseCheeseModel", "readFresh", "()J"⟩, 36) := ⟨⟨by decide +kernel, by decide +kernel⟩, List.mem_of_getElem? (i := 1224) (by decide +kernel), List.mem_of_getElem? (i := 1571) (by decide +kernel), List.mem_of_getElem? (i := 1572) (by decide +kernel)⟩
theorem lw_p82 : lw_okq (⟨"EclipseCheeseModel", "isName", "()Z"⟩, 36) := ⟨⟨by decide +kernel, by decide +kernel⟩, List.mem_of_getElem? (i := 1224) (by decide +kernel), List.mem_of_getElem? (i := 1575) (by decide +kernel), List.mem_of_getElem? (i := 1576) (by decide +kernel)⟩
theorem lw_p83 : lw_okq (⟨"EclipseCheeseModel", "eatsWord", "(Ljava/lang/String;)Z"⟩, 36) := ⟨⟨by decide +kernel, by decide +kernel⟩, List.mem_of_getElem? (i := 1224) (by decide +kernel), List.mem_of_getElem? (i := 1589) (by decide +kernel), List.mem_of_getElem? (i := 1590) (by decide +kernel)⟩
theorem lw_p84 : lw_okq (⟨"EclipseCheeseModel", "names", "(JII)V"⟩, 36) := ⟨⟨by decide +kernel, by decide +kernel⟩, List.mem_of_getElem? (i := 1224) (by decide +kernel), List.mem_of_getElem? (i := 1593) (by decide +kernel), List.mem_of_getElem? (i := 1594) (by decide +kernel)⟩
theorem lw_p85 : lw_okq (⟨"EclipseCheeseModel", "readAlmanac", "()V"⟩, 36) := ⟨⟨by decide +kernel, by decide +kernel⟩, List.mem_of_getElem? (i := 1224) (by decide +kernel), List.mem_of_getElem? (i := 1597) (by decide +kernel), List.mem_of_getElem? (i := 1598) (by decide +kernel)⟩
theorem lw_p86 : lw_okq (⟨"EclipseCheeseModel", "readRising", "([III)I"⟩, 36) := ⟨⟨by decide +kernel, by decide +kernel⟩, List.mem_of_getElem? (i := 1224) (by decide +kernel), List.mem_of_getElem? (i := 1601) (by decide +kernel), List.mem_of_getElem? (i := 1602) (by decide +kernel)⟩
theorem lw_p87 : lw_okq (⟨"EclipseCheeseModel", "eatsSign", "(I)Z"⟩, 36) := ⟨⟨by decide +kernel, by decide +kernel⟩, List.mem_of_getElem? (i := 1224) (by decide +kernel), List.mem_of_getElem? (i := 1605) (by decide +kernel), List.mem_of_getElem? (i := 1606) (by decide +kernel)⟩
theorem lw_p88 : lw_okq (⟨"EclipseCheeseModel", "readTurner", "()V"⟩, 36) := ⟨⟨by decide +kernel, by decide +kernel⟩, List.mem_of_getElem? (i := 1224) (by decide +kernel), List.mem_of_getElem? (i := 1609) (by decide +kernel), List.mem_of_getElem? (i := 1610) (by decide +kernel)⟩
theorem lw_p89 : lw_okq (⟨"EclipseCheeseModel", "readCall", "()V"⟩, 36) := ⟨⟨by decide +kernel, by decide +kernel⟩, List.mem_of_getElem? (i := 1224) (by decide +kernel), List.mem_of_getElem? (i := 1622) (by decide +kernel), List.mem_of_getElem? (i := 1623) (by decide +kernel)⟩
theorem lw_p90 : lw_okq (⟨"EclipseCheeseModel", "readSlice", "()V"⟩, 36) := ⟨⟨by decide +kernel, by decide +kernel⟩, List.mem_of_getElem? (i := 1224) (by decide +kernel), List.mem_of_getElem? (i := 1629) (by decide +kernel), List.mem_of_getElem? (i := 1630) (by decide +kernel)⟩
theorem lw_p91 : lw_okq (⟨"EclipseCheeseModel", "good", "(I)I"⟩, 36) := ⟨⟨by decide +kernel, by decide +kernel⟩, List.mem_of_getElem? (i := 1224) (by decide +kernel), List.mem_of_getElem? (i := 1633) (by decide +kernel), List.mem_of_getElem? (i := 1634) (by decide +kernel)⟩
theorem lw_p92 : lw_okq (⟨"EclipseCheeseModel", "isMinute", "(I)Z"⟩, 36) := ⟨⟨by decide +kernel, by decide +kernel⟩, List.mem_of_getElem? (i := 1224) (by decide +kernel), List.mem_of_getElem? (i := 1649) (by decide +kernel), List.mem_of_getElem? (i := 1650) (by decide +kernel)⟩
theorem lw_p93 : lw_okq (⟨"EclipseCheeseModel", "laysLight", "(I)V"⟩, 36) := ⟨⟨by decide +kernel, by decide +kernel⟩, List.mem_of_getElem? (i := 1224) (by decide +kernel), List.mem_of_getElem? (i := 1653) (by decide +kernel), List.mem_of_getElem? (i := 1654) (by decide +kernel)⟩
theorem lw_p94 : lw_okq (⟨"EclipseCheeseModel", "events", "()I"⟩, 36) := ⟨⟨by decide +kernel, by decide +kernel⟩, List.mem_of_getElem? (i := 1224) (by decide +kernel), List.mem_of_getElem? (i := 1657) (by decide +kernel), List.mem_of_getElem? (i := 1658) (by decide +kernel)⟩
theorem lw_p95 : lw_okq (⟨"EclipseCheeseModel", "fromOf", "(I)I"⟩, 36) := ⟨⟨by decide +kernel, by decide +kernel⟩, List.mem_of_getElem? (i := 1224) (by decide +kernel), List.mem_of_getElem? (i := 1661) (by decide +kernel), List.mem_of_getElem? (i := 1662) (by decide +kernel)⟩
def lw_privs_6 : List (MethodName × Nat) := [(⟨"EclipseCheeseModel", "readCheese", "()V"⟩, 36), (⟨"EclipseCheeseModel", "readFresh", "()J"⟩, 36), (⟨"EclipseCheeseModel", "isName", "()Z"⟩, 36), (⟨"EclipseCheeseModel", "eatsWord", "(Ljava/lang/String;)Z"⟩, 36), (⟨"EclipseCheeseModel", "names", "(JII)V"⟩, 36), (⟨"EclipseCheeseModel", "readAlmanac", "()V"⟩, 36), (⟨"EclipseCheeseModel", "readRising", "([III)I"⟩, 36), (⟨"EclipseCheeseModel", "eatsSign", "(I)Z"⟩, 36), (⟨"EclipseCheeseModel", "readTurner", "()V"⟩, 36), (⟨"EclipseCheeseModel", "readCall", "()V"⟩, 36), (⟨"EclipseCheeseModel", "readSlice", "()V"⟩, 36), (⟨"EclipseCheeseModel", "good", "(I)I"⟩, 36), (⟨"EclipseCheeseModel", "isMinute", "(I)Z"⟩, 36), (⟨"EclipseCheeseModel", "laysLight", "(I)V"⟩, 36), (⟨"EclipseCheeseModel", "events", "()I"⟩, 36), (⟨"EclipseCheeseModel", "fromOf", "(I)I"⟩, 36)]
theorem lw_r6 : ∀ q ∈ lw_privs_6, lw_okq q := List.forall_mem_cons.mpr ⟨lw_p80, List.forall_mem_cons.mpr ⟨lw_p81, List.forall_mem_cons.mpr ⟨lw_p82, List.forall_mem_cons.mpr ⟨lw_p83, List.forall_mem_cons.mpr ⟨lw_p84, List.forall_mem_cons.mpr ⟨lw_p85, List.forall_mem_cons.mpr ⟨lw_p86, List.forall_mem_cons.mpr ⟨lw_p87, List.forall_mem_cons.mpr ⟨lw_p88, List.forall_mem_cons.mpr ⟨lw_p89, List.forall_mem_cons.mpr ⟨lw_p90, List.forall_mem_cons.mpr ⟨lw_p91, List.forall_mem_cons.mpr ⟨lw_p92, List.forall_mem_cons.mpr ⟨lw_p93, List.forall_mem_cons.mpr ⟨lw_p94, List.forall_mem_cons.mpr ⟨lw_p95, fun _ h => absurd h List.not_mem_nil⟩⟩⟩⟩⟩⟩⟩⟩⟩⟩⟩⟩⟩⟩⟩⟩
theorem lw_p96 : lw_okq (⟨"EclipseCheeseModel", "toOf", "(I)I"⟩, 36) := ⟨⟨by decide +kernel, by decide +kernel⟩, List.mem_of_getElem? (i := 1224) (by decide +kernel), List.mem_of_getElem? (i := 1665) (by decide +kernel), List.mem_of_getElem? (i := 1666) (by decide +kernel)⟩
theorem lw_p97 : lw_okq (⟨"EclipseCheeseModel", "marksLight", "(II)V"⟩, 36) := ⟨⟨by decide +kernel, by decide +kernel⟩, List.mem_of_getElem? (i := 1224) (by decide +kernel), List.mem_of_getElem? (i := 1669) (by decide +kernel), List.mem_of_getElem? (i := 1670) (by decide +kernel)⟩
theorem lw_p98 : lw_okq (⟨"EclipseCheeseModel", "kindOf", "(I)I"⟩, 36) := ⟨⟨by decide +kernel, by decide +kernel⟩, List.mem_of_getElem? (i := 1224) (by decide +kernel), List.mem_of_getElem? (i := 1673) (by decide +kernel), List.mem_of_getElem? (i := 1674) (by decide +kernel)⟩
theorem lw_p99 : lw_okq (⟨"EclipseCheeseModel", "hutOf", "(I)I"⟩, 36) := ⟨⟨by decide +kernel, by decide +kernel⟩, List.mem_of_getElem? (i := 1224) (by decide +kernel), List.mem_of_getElem? (i := 1677) (by decide +kernel), List.mem_of_getElem? (i := 1678) (by decide +kernel)⟩
theorem lw_p100 : lw_okq (⟨"EclipseCheeseModel", "isHut", "(I)Z"⟩, 36) := ⟨⟨by decide +kernel, by decide +kernel⟩, List.mem_of_getElem? (i := 1224) (by decide +kernel), List.mem_of_getElem? (i := 1685) (by decide +kernel), List.mem_of_getElem? (i := 1686) (by decide +kernel)⟩
theorem lw_p101 : lw_okq (⟨"EclipseCheeseModel", "seemsToIn", "(II)Z"⟩, 36) := ⟨⟨by decide +kernel, by decide +kernel⟩, List.mem_of_getElem? (i := 1224) (by decide +kernel), List.mem_of_getElem? (i := 1693) (by decide +kernel), List.mem_of_getElem? (i := 1694) (by decide +kernel)⟩
theorem lw_p102 : lw_okq (⟨"EclipseCheeseModel", "changesIn", "(II)Z"⟩, 36) := ⟨⟨by decide +kernel, by decide +kernel⟩, List.mem_of_getElem? (i := 1224) (by decide +kernel), List.mem_of_getElem? (i := 1697) (by decide +kernel), List.mem_of_getElem? (i := 1698) (by decide +kernel)⟩
theorem lw_p103 : lw_okq (⟨"EclipseCheeseModel", "dueIn", "(I)I"⟩, 36) := ⟨⟨by decide +kernel, by decide +kernel⟩, List.mem_of_getElem? (i := 1224) (by decide +kernel), List.mem_of_getElem? (i := 1709) (by decide +kernel), List.mem_of_getElem? (i := 1710) (by decide +kernel)⟩
theorem lw_p104 : lw_okq (⟨"EclipseCheeseModel", "isTurner", "(I)Z"⟩, 36) := ⟨⟨by decide +kernel, by decide +kernel⟩, List.mem_of_getElem? (i := 1224) (by decide +kernel), List.mem_of_getElem? (i := 1721) (by decide +kernel), List.mem_of_getElem? (i := 1722) (by decide +kernel)⟩
theorem lw_p105 : lw_okq (⟨"EclipseCheeseModel", "isAwake", "(III)Z"⟩, 36) := ⟨⟨by decide +kernel, by decide +kernel⟩, List.mem_of_getElem? (i := 1224) (by decide +kernel), List.mem_of_getElem? (i := 1725) (by decide +kernel), List.mem_of_getElem? (i := 1726) (by decide +kernel)⟩
theorem lw_p106 : lw_okq (⟨"EclipseCheeseModel", "noticesIn", "(III)Z"⟩, 36) := ⟨⟨by decide +kernel, by decide +kernel⟩, List.mem_of_getElem? (i := 1224) (by decide +kernel), List.mem_of_getElem? (i := 1733) (by decide +kernel), List.mem_of_getElem? (i := 1734) (by decide +kernel)⟩
theorem lw_p107 : lw_okq (⟨"EclipseCheeseModel", "isInAlmanac", "(I)Z"⟩, 36) := ⟨⟨by decide +kernel, by decide +kernel⟩, List.mem_of_getElem? (i := 1224) (by decide +kernel), List.mem_of_getElem? (i := 1737) (by decide +kernel), List.mem_of_getElem? (i := 1738) (by decide +kernel)⟩
theorem lw_p108 : lw_okq (⟨"EclipseCheeseModel", "tonight", "()I"⟩, 36) := ⟨⟨by decide +kernel, by decide +kernel⟩, List.mem_of_getElem? (i := 1224) (by decide +kernel), List.mem_of_getElem? (i := 1745) (by decide +kernel), List.mem_of_getElem? (i := 1746) (by decide +kernel)⟩
theorem lw_p109 : lw_okq (⟨"EclipseCheeseModel", "everybody", "()I"⟩, 36) := ⟨⟨by decide +kernel, by decide +kernel⟩, List.mem_of_getElem? (i := 1224) (by decide +kernel), List.mem_of_getElem? (i := 1749) (by decide +kernel), List.mem_of_getElem? (i := 1750) (by decide +kernel)⟩
theorem lw_p110 : lw_okq (⟨"EclipseCheeseModel", "goes", "(II)I"⟩, 36) := ⟨⟨by decide +kernel, by decide +kernel⟩, List.mem_of_getElem? (i := 1224) (by decide +kernel), List.mem_of_getElem? (i := 1753) (by decide +kernel), List.mem_of_getElem? (i := 1754) (by decide +kernel)⟩
theorem lw_p111 : lw_okq (⟨"EclipseCheeseModel", "turns", "(II)V"⟩, 36) := ⟨⟨by decide +kernel, by decide +kernel⟩, List.mem_of_getElem? (i := 1224) (by decide +kernel), List.mem_of_getElem? (i := 1757) (by decide +kernel), List.mem_of_getElem? (i := 1758) (by decide +kernel)⟩
def lw_privs_7 : List (MethodName × Nat) := [(⟨"EclipseCheeseModel", "toOf", "(I)I"⟩, 36), (⟨"EclipseCheeseModel", "marksLight", "(II)V"⟩, 36), (⟨"EclipseCheeseModel", "kindOf", "(I)I"⟩, 36), (⟨"EclipseCheeseModel", "hutOf", "(I)I"⟩, 36), (⟨"EclipseCheeseModel", "isHut", "(I)Z"⟩, 36), (⟨"EclipseCheeseModel", "seemsToIn", "(II)Z"⟩, 36), (⟨"EclipseCheeseModel", "changesIn", "(II)Z"⟩, 36), (⟨"EclipseCheeseModel", "dueIn", "(I)I"⟩, 36), (⟨"EclipseCheeseModel", "isTurner", "(I)Z"⟩, 36), (⟨"EclipseCheeseModel", "isAwake", "(III)Z"⟩, 36), (⟨"EclipseCheeseModel", "noticesIn", "(III)Z"⟩, 36), (⟨"EclipseCheeseModel", "isInAlmanac", "(I)Z"⟩, 36), (⟨"EclipseCheeseModel", "tonight", "()I"⟩, 36), (⟨"EclipseCheeseModel", "everybody", "()I"⟩, 36), (⟨"EclipseCheeseModel", "goes", "(II)I"⟩, 36), (⟨"EclipseCheeseModel", "turns", "(II)V"⟩, 36)]
theorem lw_r7 : ∀ q ∈ lw_privs_7, lw_okq q := List.forall_mem_cons.mpr ⟨lw_p96, List.forall_mem_cons.mpr ⟨lw_p97, List.forall_mem_cons.mpr ⟨lw_p98, List.forall_mem_cons.mpr ⟨lw_p99, List.forall_mem_cons.mpr ⟨lw_p100, List.forall_mem_cons.mpr ⟨lw_p101, List.forall_mem_cons.mpr ⟨lw_p102, List.forall_mem_cons.mpr ⟨lw_p103, List.forall_mem_cons.mpr ⟨lw_p104, List.forall_mem_cons.mpr ⟨lw_p105, List.forall_mem_cons.mpr ⟨lw_p106, List.forall_mem_cons.mpr ⟨lw_p107, List.forall_mem_cons.mpr ⟨lw_p108, List.forall_mem_cons.mpr ⟨lw_p109, List.forall_mem_cons.mpr ⟨lw_p110, List.forall_mem_cons.mpr ⟨lw_p111, fun _ h => absurd h List.not_mem_nil⟩⟩⟩⟩⟩⟩⟩⟩⟩⟩⟩⟩⟩⟩⟩⟩
theorem lw_p112 : lw_okq (⟨"EclipseCheeseModel", "notes", "(II)V"⟩, 36) := ⟨⟨by decide +kernel, by decide +kernel⟩, List.mem_of_getElem? (i := 1224) (by decide +kernel), List.mem_of_getElem? (i := 1761) (by decide +kernel), List.mem_of_getElem? (i := 1762) (by decide +kernel)⟩
theorem lw_p113 : lw_okq (⟨"EclipseCheeseModel", "priceOf", "(I)I"⟩, 36) := ⟨⟨by decide +kernel, by decide +kernel⟩, List.mem_of_getElem? (i := 1224) (by decide +kernel), List.mem_of_getElem? (i := 1765) (by decide +kernel), List.mem_of_getElem? (i := 1766) (by decide +kernel)⟩
theorem lw_p114 : lw_okq (⟨"EclipseCheeseModel", "lost", "(I)I"⟩, 36) := ⟨⟨by decide +kernel, by decide +kernel⟩, List.mem_of_getElem? (i := 1224) (by decide +kernel), List.mem_of_getElem? (i := 1773) (by decide +kernel), List.mem_of_getElem? (i := 1774) (by decide +kernel)⟩
theorem lw_p115 : lw_okq (⟨"EclipseCheeseModel", "isCheese", "(I)Z"⟩, 36) := ⟨⟨by decide +kernel, by decide +kernel⟩, List.mem_of_getElem? (i := 1224) (by decide +kernel), List.mem_of_getElem? (i := 1782) (by decide +kernel), List.mem_of_getElem? (i := 1783) (by decide +kernel)⟩
theorem lw_p116 : lw_okq (⟨"EclipseCheeseModel", "veinAt", "(II)I"⟩, 36) := ⟨⟨by decide +kernel, by decide +kernel⟩, List.mem_of_getElem? (i := 1224) (by decide +kernel), List.mem_of_getElem? (i := 1798) (by decide +kernel), List.mem_of_getElem? (i := 1799) (by decide +kernel)⟩
theorem lw_p117 : lw_okq (⟨"EclipseCheeseModel", "isEvent", "(I)Z"⟩, 36) := ⟨⟨by decide +kernel, by decide +kernel⟩, List.mem_of_getElem? (i := 1224) (by decide +kernel), List.mem_of_getElem? (i := 1814) (by decide +kernel), List.mem_of_getElem? (i := 1815) (by decide +kernel)⟩
theorem lw_p118 : lw_okq (⟨"EclipseCheeseModel", "wakeNow", "()I"⟩, 36) := ⟨⟨by decide +kernel, by decide +kernel⟩, List.mem_of_getElem? (i := 1224) (by decide +kernel), List.mem_of_getElem? (i := 1822) (by decide +kernel), List.mem_of_getElem? (i := 1823) (by decide +kernel)⟩
theorem lw_p119 : lw_okq (⟨"EclipseCheeseModel", "fewestNow", "()I"⟩, 36) := ⟨⟨by decide +kernel, by decide +kernel⟩, List.mem_of_getElem? (i := 1224) (by decide +kernel), List.mem_of_getElem? (i := 1837) (by decide +kernel), List.mem_of_getElem? (i := 1838) (by decide +kernel)⟩
theorem lw_p120 : lw_okq (⟨"EclipseCheeseModel", "missesNone", "(I)Z"⟩, 36) := ⟨⟨by decide +kernel, by decide +kernel⟩, List.mem_of_getElem? (i := 1224) (by decide +kernel), List.mem_of_getElem? (i := 1841) (by decide +kernel), List.mem_of_getElem? (i := 1842) (by decide +kernel)⟩
theorem lw_p121 : lw_okq (⟨"EclipseCheeseModel", "isSlice", "(I)Z"⟩, 36) := ⟨⟨by decide +kernel, by decide +kernel⟩, List.mem_of_getElem? (i := 1224) (by decide +kernel), List.mem_of_getElem? (i := 1853) (by decide +kernel), List.mem_of_getElem? (i := 1854) (by decide +kernel)⟩
theorem lw_p122 : lw_okq (⟨"EclipseCheeseModel", "fitsNow", "(I)I"⟩, 36) := ⟨⟨by decide +kernel, by decide +kernel⟩, List.mem_of_getElem? (i := 1224) (by decide +kernel), List.mem_of_getElem? (i := 1857) (by decide +kernel), List.mem_of_getElem? (i := 1858) (by decide +kernel)⟩
theorem lw_p123 : lw_okq (⟨"EclipseCheeseModel", "draws", "()I"⟩, 36) := ⟨⟨by decide +kernel, by decide +kernel⟩, List.mem_of_getElem? (i := 1224) (by decide +kernel), List.mem_of_getElem? (i := 1870) (by decide +kernel), List.mem_of_getElem? (i := 1871) (by decide +kernel)⟩
theorem lw_p124 : lw_okq (⟨"EclipseCheeseModel", "drawOf", "(I)I"⟩, 36) := ⟨⟨by decide +kernel, by decide +kernel⟩, List.mem_of_getElem? (i := 1224) (by decide +kernel), List.mem_of_getElem? (i := 1874) (by decide +kernel), List.mem_of_getElem? (i := 1875) (by decide +kernel)⟩
theorem lw_p125 : lw_okq (⟨"EclipseCheeseModel", "comes", "(II)V"⟩, 36) := ⟨⟨by decide +kernel, by decide +kernel⟩, List.mem_of_getElem? (i := 1224) (by decide +kernel), List.mem_of_getElem? (i := 1881) (by decide +kernel), List.mem_of_getElem? (i := 1882) (by decide +kernel)⟩
theorem lw_p126 : lw_okq (⟨"EclipseCheeseModel", "denied", "(I)Z"⟩, 36) := ⟨⟨by decide +kernel, by decide +kernel⟩, List.mem_of_getElem? (i := 1224) (by decide +kernel), List.mem_of_getElem? (i := 1889) (by decide +kernel), List.mem_of_getElem? (i := 1890) (by decide +kernel)⟩
theorem lw_p127 : lw_okq (⟨"EclipseCheeseModel", "keeps", "()V"⟩, 36) := ⟨⟨by decide +kernel, by decide +kernel⟩, List.mem_of_getElem? (i := 1224) (by decide +kernel), List.mem_of_getElem? (i := 1893) (by decide +kernel), List.mem_of_getElem? (i := 1894) (by decide +kernel)⟩
def lw_privs_8 : List (MethodName × Nat) := [(⟨"EclipseCheeseModel", "notes", "(II)V"⟩, 36), (⟨"EclipseCheeseModel", "priceOf", "(I)I"⟩, 36), (⟨"EclipseCheeseModel", "lost", "(I)I"⟩, 36), (⟨"EclipseCheeseModel", "isCheese", "(I)Z"⟩, 36), (⟨"EclipseCheeseModel", "veinAt", "(II)I"⟩, 36), (⟨"EclipseCheeseModel", "isEvent", "(I)Z"⟩, 36), (⟨"EclipseCheeseModel", "wakeNow", "()I"⟩, 36), (⟨"EclipseCheeseModel", "fewestNow", "()I"⟩, 36), (⟨"EclipseCheeseModel", "missesNone", "(I)Z"⟩, 36), (⟨"EclipseCheeseModel", "isSlice", "(I)Z"⟩, 36), (⟨"EclipseCheeseModel", "fitsNow", "(I)I"⟩, 36), (⟨"EclipseCheeseModel", "draws", "()I"⟩, 36), (⟨"EclipseCheeseModel", "drawOf", "(I)I"⟩, 36), (⟨"EclipseCheeseModel", "comes", "(II)V"⟩, 36), (⟨"EclipseCheeseModel", "denied", "(I)Z"⟩, 36), (⟨"EclipseCheeseModel", "keeps", "()V"⟩, 36)]
theorem lw_r8 : ∀ q ∈ lw_privs_8, lw_okq q := List.forall_mem_cons.mpr ⟨lw_p112, List.forall_mem_cons.mpr ⟨lw_p113, List.forall_mem_cons.mpr ⟨lw_p114, List.forall_mem_cons.mpr ⟨lw_p115, List.forall_mem_cons.mpr ⟨lw_p116, List.forall_mem_cons.mpr ⟨lw_p117, List.forall_mem_cons.mpr ⟨lw_p118, List.forall_mem_cons.mpr ⟨lw_p119, List.forall_mem_cons.mpr ⟨lw_p120, List.forall_mem_cons.mpr ⟨lw_p121, List.forall_mem_cons.mpr ⟨lw_p122, List.forall_mem_cons.mpr ⟨lw_p123, List.forall_mem_cons.mpr ⟨lw_p124, List.forall_mem_cons.mpr ⟨lw_p125, List.forall_mem_cons.mpr ⟨lw_p126, List.forall_mem_cons.mpr ⟨lw_p127, fun _ h => absurd h List.not_mem_nil⟩⟩⟩⟩⟩⟩⟩⟩⟩⟩⟩⟩⟩⟩⟩⟩
theorem lw_p128 : lw_okq (⟨"EclipseCheeseModel", "granted", "()Z"⟩, 36) := ⟨⟨by decide +kernel, by decide +kernel⟩, List.mem_of_getElem? (i := 1224) (by decide +kernel), List.mem_of_getElem? (i := 1897) (by decide +kernel), List.mem_of_getElem? (i := 1898) (by decide +kernel)⟩
def lw_privs_9 : List (MethodName × Nat) := [(⟨"EclipseCheeseModel", "granted", "()Z"⟩, 36)]
theorem lw_r9 : ∀ q ∈ lw_privs_9, lw_okq q := List.forall_mem_cons.mpr ⟨lw_p128, fun _ h => absurd h List.not_mem_nil⟩
def lw_privs : List (MethodName × Nat) := lw_privs_1 ++ (lw_privs_2 ++ (lw_privs_3 ++ (lw_privs_4 ++ (lw_privs_5 ++ (lw_privs_6 ++ (lw_privs_7 ++ (lw_privs_8 ++ (lw_privs_9))))))))
def lw_tbl : List Cond := k2_sels lw_privs ++ tables_1
theorem lw_privs_ok : ∀ q ∈ lw_privs, lw_okq q := by
  show ∀ q ∈ lw_privs_1 ++ (lw_privs_2 ++ (lw_privs_3 ++ (lw_privs_4 ++ (lw_privs_5 ++ (lw_privs_6 ++ (lw_privs_7 ++ (lw_privs_8 ++ (lw_privs_9)))))))), lw_okq q
  exact List.forall_mem_append.mpr ⟨lw_r1, List.forall_mem_append.mpr ⟨lw_r2, List.forall_mem_append.mpr ⟨lw_r3, List.forall_mem_append.mpr ⟨lw_r4, List.forall_mem_append.mpr ⟨lw_r5, List.forall_mem_append.mpr ⟨lw_r6, List.forall_mem_append.mpr ⟨lw_r7, List.forall_mem_append.mpr ⟨lw_r8, lw_r9⟩⟩⟩⟩⟩⟩⟩⟩
end
section
def RX0 : String := "EclipseCheese$Alp"
def TX0 : u_T := fun k => match k with
  | 0 => ("EclipseCheese$Alp", "minutes", "I", false)
  | 1 => ("EclipseCheese$Alp", "huts", "I", false)
  | 2 => ("EclipseCheese$Alp", "prices", "[I", true)
  | 3 => ("EclipseCheese$Alp", "eventCount", "I", false)
  | 4 => ("EclipseCheese$Alp", "events", "[LEclipseCheese$Event;", true)
  | 5 => ("EclipseCheese$Alp", "cheeseCount", "I", false)
  | 6 => ("EclipseCheese$Alp", "cheeseHut", "[I", true)
  | 7 => ("EclipseCheese$Alp", "cheesesUp", "I", false)
  | 8 => ("EclipseCheese$Alp", "almanac", "LEclipseCheese$Minutes;", true)
  | 9 => ("EclipseCheese$Alp", "turnerCount", "I", false)
  | 10 => ("EclipseCheese$Alp", "turners", "[LEclipseCheese$Turner;", true)
  | 11 => ("EclipseCheese$Alp", "callCount", "I", false)
  | 12 => ("EclipseCheese$Alp", "calls", "[LEclipseCheese$Call;", true)
  | 13 => ("EclipseCheese$Alp", "sliceCount", "I", false)
  | _ => ("EclipseCheese$Alp", "slices", "[LEclipseCheese$Minutes;", true)
def tyX0 : Nat → FieldType := fun k => match k with
  | 0 => .int
  | 1 => .int
  | 2 => .array .int
  | 3 => .int
  | 4 => .array (.object "EclipseCheese$Event")
  | 5 => .int
  | 6 => .array .int
  | 7 => .int
  | 8 => .object "EclipseCheese$Minutes"
  | 9 => .int
  | 10 => .array (.object "EclipseCheese$Turner")
  | 11 => .int
  | 12 => .array (.object "EclipseCheese$Call")
  | 13 => .int
  | _ => .array (.object "EclipseCheese$Minutes")
abbrev wsX00 : List Cond := u_ws RX0 TX0 15
theorem nmX0 : ∀ a, a < 15 → ∀ b, b < 15 → a ≠ b → (TX0 a).2.1 ≠ (TX0 b).2.1 := by decide +kernel
theorem tyX0_ok : ∀ k, k < 15 → parseFieldDescriptor (TX0 k).2.2.1 = some (tyX0 k) := by decide +kernel
abbrev cX0_init : ByteArray := prog_2_method_1_code
def yX0_init : MethodName := ⟨RX0, "<init>", "()V"⟩
abbrev cX0_clear : ByteArray := prog_2_method_2_code
def yX0_clear : MethodName := ⟨RX0, "clear", "()V"⟩
abbrev cX0_cheesesIn : ByteArray := prog_2_method_3_code
def yX0_cheesesIn : MethodName := ⟨RX0, "cheesesIn", "(I)I"⟩
abbrev cX0_costOf : ByteArray := prog_2_method_4_code
def yX0_costOf : MethodName := ⟨RX0, "costOf", "(I)I"⟩
def RX1 : String := "EclipseCheese$Call"
def TX1 : u_T := fun k => match k with
  | 0 => ("EclipseCheese$Call", "turner", "I", false)
  | 1 => ("EclipseCheese$Call", "at", "I", false)
  | 2 => ("EclipseCheese$Call", "lasts", "I", false)
  | _ => ("EclipseCheese$Call", "costs", "I", false)
def tyX1 : Nat → FieldType := fun k => match k with
  | 0 => .int
  | 1 => .int
  | 2 => .int
  | _ => .int
abbrev wsX10 : List Cond := u_ws RX1 TX1 4
theorem nmX1 : ∀ a, a < 4 → ∀ b, b < 4 → a ≠ b → (TX1 a).2.1 ≠ (TX1 b).2.1 := by decide +kernel
theorem tyX1_ok : ∀ k, k < 4 → parseFieldDescriptor (TX1 k).2.2.1 = some (tyX1 k) := by decide +kernel
abbrev cX1_init : ByteArray := prog_3_method_1_code
def yX1_init : MethodName := ⟨RX1, "<init>", "()V"⟩
def RX2 : String := "EclipseCheese$Event"
def TX2 : u_T := fun k => match k with
  | 0 => ("EclipseCheese$Event", "kind", "I", false)
  | 1 => ("EclipseCheese$Event", "hut", "I", false)
  | 2 => ("EclipseCheese$Event", "from", "I", false)
  | _ => ("EclipseCheese$Event", "to", "I", false)
def tyX2 : Nat → FieldType := fun k => match k with
  | 0 => .int
  | 1 => .int
  | 2 => .int
  | _ => .int
abbrev wsX20 : List Cond := u_ws RX2 TX2 4
theorem nmX2 : ∀ a, a < 4 → ∀ b, b < 4 → a ≠ b → (TX2 a).2.1 ≠ (TX2 b).2.1 := by decide +kernel
theorem tyX2_ok : ∀ k, k < 4 → parseFieldDescriptor (TX2 k).2.2.1 = some (tyX2 k) := by decide +kernel
abbrev cX2_init : ByteArray := prog_4_method_1_code
def yX2_init : MethodName := ⟨RX2, "<init>", "()V"⟩
def RX3 : String := "EclipseCheese$Held"
def TX3 : u_T := fun k => match k with
  | 0 => ("EclipseCheese$Held", "calls", "I", false)
  | 1 => ("EclipseCheese$Held", "seed", "I", false)
  | 2 => ("EclipseCheese$Held", "clouds", "I", false)
  | 3 => ("EclipseCheese$Held", "from", "[I", true)
  | _ => ("EclipseCheese$Held", "to", "[I", true)
def tyX3 : Nat → FieldType := fun k => match k with
  | 0 => .int
  | 1 => .int
  | 2 => .int
  | 3 => .array .int
  | _ => .array .int
abbrev wsX30 : List Cond := u_ws RX3 TX3 5
theorem nmX3 : ∀ a, a < 5 → ∀ b, b < 5 → a ≠ b → (TX3 a).2.1 ≠ (TX3 b).2.1 := by decide +kernel
theorem tyX3_ok : ∀ k, k < 5 → parseFieldDescriptor (TX3 k).2.2.1 = some (tyX3 k) := by decide +kernel
abbrev cX3_init : ByteArray := prog_5_method_1_code
def yX3_init : MethodName := ⟨RX3, "<init>", "()V"⟩
abbrev cX3_clear : ByteArray := prog_5_method_2_code
def yX3_clear : MethodName := ⟨RX3, "clear", "()V"⟩
abbrev cX3_become : ByteArray := prog_5_method_3_code
def yX3_become : MethodName := ⟨RX3, "become", "(LEclipseCheese$Held;)V"⟩
abbrev cX3_add : ByteArray := prog_5_method_4_code
def yX3_add : MethodName := ⟨RX3, "add", "(II)V"⟩
abbrev cX3_addDrawn : ByteArray := prog_5_method_5_code
def yX3_addDrawn : MethodName := ⟨RX3, "addDrawn", "(I)I"⟩
abbrev cX3_drawBelow : ByteArray := prog_5_method_6_code
def yX3_drawBelow : MethodName := ⟨RX3, "drawBelow", "(I)I"⟩
def RX4 : String := "EclipseCheese$Minutes"
def TX4 : u_T := fun k => match k with
  | 0 => ("EclipseCheese$Minutes", "count", "I", false)
  | _ => ("EclipseCheese$Minutes", "at", "[I", true)
def tyX4 : Nat → FieldType := fun k => match k with
  | 0 => .int
  | _ => .array .int
abbrev wsX40 : List Cond := u_ws RX4 TX4 2
theorem nmX4 : ∀ a, a < 2 → ∀ b, b < 2 → a ≠ b → (TX4 a).2.1 ≠ (TX4 b).2.1 := by decide +kernel
theorem tyX4_ok : ∀ k, k < 2 → parseFieldDescriptor (TX4 k).2.2.1 = some (tyX4 k) := by decide +kernel
abbrev cX4_init : ByteArray := prog_6_method_1_code
def yX4_init : MethodName := ⟨RX4, "<init>", "()V"⟩
abbrev cX4_holds : ByteArray := prog_6_method_2_code
def yX4_holds : MethodName := ⟨RX4, "holds", "(I)Z"⟩
def RX5 : String := "EclipseCheese$Night"
def TX5 : u_T := fun k => match k with
  | 0 => ("EclipseCheese$Night", "alp", "LEclipseCheese$Alp;", false)
  | 1 => ("EclipseCheese$Night", "sky", "LEclipseCheese$Sky;", false)
  | 2 => ("EclipseCheese$Night", "calls", "I", false)
  | 3 => ("EclipseCheese$Night", "hands", "[I", true)
  | 4 => ("EclipseCheese$Night", "right", "[I", true)
  | 5 => ("EclipseCheese$Night", "wrong", "[I", true)
  | 6 => ("EclipseCheese$Night", "missed", "[I", true)
  | 7 => ("EclipseCheese$Night", "cracked", "[I", true)
  | 8 => ("EclipseCheese$Night", "turns", "[I", true)
  | 9 => ("EclipseCheese$Night", "rightTurns", "[I", true)
  | 10 => ("EclipseCheese$Night", "rounds", "[I", true)
  | _ => ("EclipseCheese$Night", "freeFrom", "[I", true)
def tyX5 : Nat → FieldType := fun k => match k with
  | 0 => .object "EclipseCheese$Alp"
  | 1 => .object "EclipseCheese$Sky"
  | 2 => .int
  | 3 => .array .int
  | 4 => .array .int
  | 5 => .array .int
  | 6 => .array .int
  | 7 => .array .int
  | 8 => .array .int
  | 9 => .array .int
  | 10 => .array .int
  | _ => .array .int
abbrev wsX50 : List Cond := u_ws RX5 TX5 12
theorem nmX5 : ∀ a, a < 12 → ∀ b, b < 12 → a ≠ b → (TX5 a).2.1 ≠ (TX5 b).2.1 := by decide +kernel
theorem tyX5_ok : ∀ k, k < 12 → parseFieldDescriptor (TX5 k).2.2.1 = some (tyX5 k) := by decide +kernel
abbrev cX5_init : ByteArray := prog_7_method_1_code
def yX5_init : MethodName := ⟨RX5, "<init>", "(LEclipseCheese$Alp;LEclipseCheese$Sky;)V"⟩
abbrev cX5_play : ByteArray := prog_7_method_2_code
def yX5_play : MethodName := ⟨RX5, "play", "(LEclipseCheese$Alp;LEclipseCheese$Sky;II)V"⟩
abbrev cX5_forget : ByteArray := prog_7_method_3_code
def yX5_forget : MethodName := ⟨RX5, "forget", "()V"⟩
abbrev cX5_turnAll : ByteArray := prog_7_method_4_code
def yX5_turnAll : MethodName := ⟨RX5, "turnAll", "(II)I"⟩
abbrev cX5_turnSome : ByteArray := prog_7_method_5_code
def yX5_turnSome : MethodName := ⟨RX5, "turnSome", "(IIII)I"⟩
abbrev cX5_judge : ByteArray := prog_7_method_6_code
def yX5_judge : MethodName := ⟨RX5, "judge", "(III)V"⟩
abbrev cX5_isAwake : ByteArray := prog_7_method_7_code
def yX5_isAwake : MethodName := ⟨RX5, "isAwake", "(II)Z"⟩
abbrev cX5_isCalled : ByteArray := prog_7_method_8_code
def yX5_isCalled : MethodName := ⟨RX5, "isCalled", "(II)Z"⟩
abbrev cX5_noticedHuts : ByteArray := prog_7_method_9_code
def yX5_noticedHuts : MethodName := ⟨RX5, "noticedHuts", "(II)I"⟩
abbrev cX5_minutesAwake : ByteArray := prog_7_method_10_code
def yX5_minutesAwake : MethodName := ⟨RX5, "minutesAwake", "(I)I"⟩
abbrev cX5_turnerOf : ByteArray := prog_7_method_11_code
def yX5_turnerOf : MethodName := ⟨RX5, "turnerOf", "(II)I"⟩
abbrev cX5_isTurned : ByteArray := prog_7_method_12_code
def yX5_isTurned : MethodName := ⟨RX5, "isTurned", "(II)Z"⟩
abbrev cX5_liesUp : ByteArray := prog_7_method_13_code
def yX5_liesUp : MethodName := ⟨RX5, "liesUp", "(II)Z"⟩
abbrev cX5_minuteOfVein : ByteArray := prog_7_method_14_code
def yX5_minuteOfVein : MethodName := ⟨RX5, "minuteOfVein", "(II)I"⟩
abbrev cX5_cheesesWithVeins : ByteArray := prog_7_method_15_code
def yX5_cheesesWithVeins : MethodName := ⟨RX5, "cheesesWithVeins", "(LEclipseCheese$Minutes;)I"⟩
abbrev cX5_hasJustVeins : ByteArray := prog_7_method_16_code
def yX5_hasJustVeins : MethodName := ⟨RX5, "hasJustVeins", "(ILEclipseCheese$Minutes;)Z"⟩
abbrev cX5_missesAny : ByteArray := prog_7_method_17_code
def yX5_missesAny : MethodName := ⟨RX5, "missesAny", "()Z"⟩
abbrev cX5_price : ByteArray := prog_7_method_18_code
def yX5_price : MethodName := ⟨RX5, "price", "(I)I"⟩
abbrev cX5_sum : ByteArray := prog_7_method_19_code
def yX5_sum : MethodName := ⟨RX5, "sum", "()I"⟩
def RX6 : String := "EclipseCheese$Past"
def TX6 : u_T := fun k => match k with
  | 0 => ("EclipseCheese$Past", "actCount", "I", false)
  | 1 => ("EclipseCheese$Past", "acts", "[LEclipseCheese$Held;", true)
  | 2 => ("EclipseCheese$Past", "markCount", "I", false)
  | _ => ("EclipseCheese$Past", "marks", "[LEclipseCheese$Held;", true)
def tyX6 : Nat → FieldType := fun k => match k with
  | 0 => .int
  | 1 => .array (.object "EclipseCheese$Held")
  | 2 => .int
  | _ => .array (.object "EclipseCheese$Held")
abbrev wsX60 : List Cond := u_ws RX6 TX6 4
theorem nmX6 : ∀ a, a < 4 → ∀ b, b < 4 → a ≠ b → (TX6 a).2.1 ≠ (TX6 b).2.1 := by decide +kernel
theorem tyX6_ok : ∀ k, k < 4 → parseFieldDescriptor (TX6 k).2.2.1 = some (tyX6 k) := by decide +kernel
abbrev cX6_init : ByteArray := prog_8_method_1_code
def yX6_init : MethodName := ⟨RX6, "<init>", "()V"⟩
abbrev cX6_clear : ByteArray := prog_8_method_2_code
def yX6_clear : MethodName := ⟨RX6, "clear", "()V"⟩
abbrev cX6_keepAct : ByteArray := prog_8_method_3_code
def yX6_keepAct : MethodName := ⟨RX6, "keepAct", "(LEclipseCheese$Held;)V"⟩
abbrev cX6_dropOldestAct : ByteArray := prog_8_method_4_code
def yX6_dropOldestAct : MethodName := ⟨RX6, "dropOldestAct", "()V"⟩
abbrev cX6_takeBack : ByteArray := prog_8_method_5_code
def yX6_takeBack : MethodName := ⟨RX6, "takeBack", "(LEclipseCheese$Held;)Z"⟩
abbrev cX6_keepMark : ByteArray := prog_8_method_6_code
def yX6_keepMark : MethodName := ⟨RX6, "keepMark", "(LEclipseCheese$Held;)I"⟩
abbrev cX6_goBack : ByteArray := prog_8_method_7_code
def yX6_goBack : MethodName := ⟨RX6, "goBack", "(LEclipseCheese$Held;I)Z"⟩
def RX7 : String := "EclipseCheese$Reader"
def TX7 : u_T := fun k => match k with
  | 0 => ("EclipseCheese$Reader", "text", "[B", true)
  | 1 => ("EclipseCheese$Reader", "length", "I", false)
  | 2 => ("EclipseCheese$Reader", "next", "I", false)
  | 3 => ("EclipseCheese$Reader", "kind", "I", false)
  | 4 => ("EclipseCheese$Reader", "start", "I", false)
  | 5 => ("EclipseCheese$Reader", "word", "J", false)
  | 6 => ("EclipseCheese$Reader", "value", "I", false)
  | 7 => ("EclipseCheese$Reader", "number", "I", false)
  | 8 => ("EclipseCheese$Reader", "from", "I", false)
  | 9 => ("EclipseCheese$Reader", "to", "I", false)
  | 10 => ("EclipseCheese$Reader", "alp", "LEclipseCheese$Alp;", false)
  | 11 => ("EclipseCheese$Reader", "alpTold", "Z", false)
  | 12 => ("EclipseCheese$Reader", "almanacTold", "Z", false)
  | 13 => ("EclipseCheese$Reader", "cheeseNames", "[J", true)
  | 14 => ("EclipseCheese$Reader", "turnerNames", "[J", true)
  | 15 => ("EclipseCheese$Reader", "fault", "I", false)
  | _ => ("EclipseCheese$Reader", "place", "I", false)
def tyX7 : Nat → FieldType := fun k => match k with
  | 0 => .array .byte
  | 1 => .int
  | 2 => .int
  | 3 => .int
  | 4 => .int
  | 5 => .long
  | 6 => .int
  | 7 => .int
  | 8 => .int
  | 9 => .int
  | 10 => .object "EclipseCheese$Alp"
  | 11 => .boolean
  | 12 => .boolean
  | 13 => .array .long
  | 14 => .array .long
  | 15 => .int
  | _ => .int
abbrev wsX70 : List Cond := u_ws RX7 TX7 17
theorem nmX7 : ∀ a, a < 17 → ∀ b, b < 17 → a ≠ b → (TX7 a).2.1 ≠ (TX7 b).2.1 := by decide +kernel
theorem tyX7_ok : ∀ k, k < 17 → parseFieldDescriptor (TX7 k).2.2.1 = some (tyX7 k) := by decide +kernel
abbrev cX7_init : ByteArray := prog_9_method_1_code
def yX7_init : MethodName := ⟨RX7, "<init>", "([BLEclipseCheese$Alp;)V"⟩
abbrev cX7_readAll : ByteArray := prog_9_method_2_code
def yX7_readAll : MethodName := ⟨RX7, "readAll", "(LEclipseCheese$Alp;I)Z"⟩
abbrev cX7_fail : ByteArray := prog_9_method_3_code
def yX7_fail : MethodName := ⟨RX7, "fail", "(I)Z"⟩
abbrev cX7_step : ByteArray := prog_9_method_4_code
def yX7_step : MethodName := ⟨RX7, "step", "()V"⟩
abbrev cX7_stepWord : ByteArray := prog_9_method_5_code
def yX7_stepWord : MethodName := ⟨RX7, "stepWord", "()I"⟩
abbrev cX7_stepWhole : ByteArray := prog_9_method_6_code
def yX7_stepWhole : MethodName := ⟨RX7, "stepWhole", "()I"⟩
abbrev cX7_packed : ByteArray := prog_9_method_7_code
def yX7_packed : MethodName := ⟨RX7, "packed", "(Ljava/lang/String;)J"⟩
abbrev cX7_seesWord : ByteArray := prog_9_method_8_code
def yX7_seesWord : MethodName := ⟨RX7, "seesWord", "(Ljava/lang/String;)Z"⟩
abbrev cX7_takeWord : ByteArray := prog_9_method_9_code
def yX7_takeWord : MethodName := ⟨RX7, "takeWord", "(Ljava/lang/String;)Z"⟩
abbrev cX7_seesWhole : ByteArray := prog_9_method_10_code
def yX7_seesWhole : MethodName := ⟨RX7, "seesWhole", "(II)Z"⟩
abbrev cX7_takeWhole : ByteArray := prog_9_method_11_code
def yX7_takeWhole : MethodName := ⟨RX7, "takeWhole", "(II)Z"⟩
abbrev cX7_takeComma : ByteArray := prog_9_method_12_code
def yX7_takeComma : MethodName := ⟨RX7, "takeComma", "()Z"⟩
abbrev cX7_takeHut : ByteArray := prog_9_method_13_code
def yX7_takeHut : MethodName := ⟨RX7, "takeHut", "()Z"⟩
abbrev cX7_takeSpan : ByteArray := prog_9_method_14_code
def yX7_takeSpan : MethodName := ⟨RX7, "takeSpan", "()Z"⟩
abbrev cX7_lineWord : ByteArray := prog_9_method_15_code
def yX7_lineWord : MethodName := ⟨RX7, "lineWord", "(I)Ljava/lang/String;"⟩
abbrev cX7_sortOfWord : ByteArray := prog_9_method_16_code
def yX7_sortOfWord : MethodName := ⟨RX7, "sortOfWord", "()I"⟩
abbrev cX7_isToldAgain : ByteArray := prog_9_method_17_code
def yX7_isToldAgain : MethodName := ⟨RX7, "isToldAgain", "(I)Z"⟩
abbrev cX7_isFull : ByteArray := prog_9_method_18_code
def yX7_isFull : MethodName := ⟨RX7, "isFull", "(I)Z"⟩
abbrev cX7_readLine : ByteArray := prog_9_method_19_code
def yX7_readLine : MethodName := ⟨RX7, "readLine", "()Z"⟩
abbrev cX7_readAlp : ByteArray := prog_9_method_20_code
def yX7_readAlp : MethodName := ⟨RX7, "readAlp", "()Z"⟩
abbrev cX7_readEvent : ByteArray := prog_9_method_21_code
def yX7_readEvent : MethodName := ⟨RX7, "readEvent", "(I)Z"⟩
abbrev cX7_readCheese : ByteArray := prog_9_method_22_code
def yX7_readCheese : MethodName := ⟨RX7, "readCheese", "()Z"⟩
abbrev cX7_readTurner : ByteArray := prog_9_method_23_code
def yX7_readTurner : MethodName := ⟨RX7, "readTurner", "()Z"⟩
abbrev cX7_turnerKind : ByteArray := prog_9_method_24_code
def yX7_turnerKind : MethodName := ⟨RX7, "turnerKind", "()I"⟩
abbrev cX7_readHuts : ByteArray := prog_9_method_25_code
def yX7_readHuts : MethodName := ⟨RX7, "readHuts", "(LEclipseCheese$Turner;)Z"⟩
abbrev cX7_readCall : ByteArray := prog_9_method_26_code
def yX7_readCall : MethodName := ⟨RX7, "readCall", "()Z"⟩
abbrev cX7_readMinutes : ByteArray := prog_9_method_27_code
def yX7_readMinutes : MethodName := ⟨RX7, "readMinutes", "(LEclipseCheese$Minutes;)Z"⟩
abbrev cX7_seesName : ByteArray := prog_9_method_28_code
def yX7_seesName : MethodName := ⟨RX7, "seesName", "()Z"⟩
abbrev cX7_seesNewName : ByteArray := prog_9_method_29_code
def yX7_seesNewName : MethodName := ⟨RX7, "seesNewName", "()Z"⟩
abbrev cX7_isToldCheese : ByteArray := prog_9_method_30_code
def yX7_isToldCheese : MethodName := ⟨RX7, "isToldCheese", "()Z"⟩
abbrev cX7_namedTurner : ByteArray := prog_9_method_31_code
def yX7_namedTurner : MethodName := ⟨RX7, "namedTurner", "()I"⟩
def RX8 : String := "EclipseCheese$Sky"
def TX8 : u_T := fun k => match k with
  | 0 => ("EclipseCheese$Sky", "minutes", "I", false)
  | 1 => ("EclipseCheese$Sky", "allHuts", "I", false)
  | 2 => ("EclipseCheese$Sky", "eclipsed", "[Z", true)
  | 3 => ("EclipseCheese$Sky", "lightning", "[Z", true)
  | 4 => ("EclipseCheese$Sky", "clouded", "[Z", true)
  | 5 => ("EclipseCheese$Sky", "shuttered", "[I", true)
  | 6 => ("EclipseCheese$Sky", "bright", "[I", true)
  | 7 => ("EclipseCheese$Sky", "seeming", "[I", true)
  | 8 => ("EclipseCheese$Sky", "changed", "[I", true)
  | 9 => ("EclipseCheese$Sky", "seemed", "[I", true)
  | 10 => ("EclipseCheese$Sky", "stirCount", "I", false)
  | _ => ("EclipseCheese$Sky", "stirs", "[I", true)
def tyX8 : Nat → FieldType := fun k => match k with
  | 0 => .int
  | 1 => .int
  | 2 => .array .boolean
  | 3 => .array .boolean
  | 4 => .array .boolean
  | 5 => .array .int
  | 6 => .array .int
  | 7 => .array .int
  | 8 => .array .int
  | 9 => .array .int
  | 10 => .int
  | _ => .array .int
abbrev wsX80 : List Cond := u_ws RX8 TX8 12
theorem nmX8 : ∀ a, a < 12 → ∀ b, b < 12 → a ≠ b → (TX8 a).2.1 ≠ (TX8 b).2.1 := by decide +kernel
theorem tyX8_ok : ∀ k, k < 12 → parseFieldDescriptor (TX8 k).2.2.1 = some (tyX8 k) := by decide +kernel
abbrev cX8_init : ByteArray := prog_10_method_1_code
def yX8_init : MethodName := ⟨RX8, "<init>", "()V"⟩
abbrev cX8_build : ByteArray := prog_10_method_2_code
def yX8_build : MethodName := ⟨RX8, "build", "(LEclipseCheese$Alp;LEclipseCheese$Held;I)V"⟩
abbrev cX8_wipe : ByteArray := prog_10_method_3_code
def yX8_wipe : MethodName := ⟨RX8, "wipe", "()V"⟩
abbrev cX8_layCloud : ByteArray := prog_10_method_4_code
def yX8_layCloud : MethodName := ⟨RX8, "layCloud", "(II)V"⟩
abbrev cX8_layEvent : ByteArray := prog_10_method_5_code
def yX8_layEvent : MethodName := ⟨RX8, "layEvent", "(LEclipseCheese$Event;)V"⟩
abbrev cX8_findLight : ByteArray := prog_10_method_6_code
def yX8_findLight : MethodName := ⟨RX8, "findLight", "()V"⟩
abbrev cX8_findStirs : ByteArray := prog_10_method_7_code
def yX8_findStirs : MethodName := ⟨RX8, "findStirs", "(LEclipseCheese$Minutes;)V"⟩
abbrev cX8_isBright : ByteArray := prog_10_method_8_code
def yX8_isBright : MethodName := ⟨RX8, "isBright", "(I)Z"⟩
abbrev cX8_crackingHuts : ByteArray := prog_10_method_9_code
def yX8_crackingHuts : MethodName := ⟨RX8, "crackingHuts", "(I)I"⟩
def RX9 : String := "EclipseCheese$Turner"
def TX9 : u_T := fun k => match k with
  | 0 => ("EclipseCheese$Turner", "kind", "I", false)
  | 1 => ("EclipseCheese$Turner", "from", "I", false)
  | 2 => ("EclipseCheese$Turner", "to", "I", false)
  | 3 => ("EclipseCheese$Turner", "hands", "I", false)
  | 4 => ("EclipseCheese$Turner", "takes", "I", false)
  | _ => ("EclipseCheese$Turner", "huts", "I", false)
def tyX9 : Nat → FieldType := fun k => match k with
  | 0 => .int
  | 1 => .int
  | 2 => .int
  | 3 => .int
  | 4 => .int
  | _ => .int
abbrev wsX90 : List Cond := u_ws RX9 TX9 6
theorem nmX9 : ∀ a, a < 6 → ∀ b, b < 6 → a ≠ b → (TX9 a).2.1 ≠ (TX9 b).2.1 := by decide +kernel
theorem tyX9_ok : ∀ k, k < 6 → parseFieldDescriptor (TX9 k).2.2.1 = some (tyX9 k) := by decide +kernel
abbrev cX9_init : ByteArray := prog_11_method_1_code
def yX9_init : MethodName := ⟨RX9, "<init>", "()V"⟩
def RX10 : String := "EclipseCheese"
def TX10 : u_T := fun k => match k with
  | 0 => ("EclipseCheese", "tape", "[B", true)
  | 1 => ("EclipseCheese", "tapeLength", "I", false)
  | 2 => ("EclipseCheese", "alp", "LEclipseCheese$Alp;", false)
  | 3 => ("EclipseCheese", "draft", "LEclipseCheese$Alp;", false)
  | 4 => ("EclipseCheese", "reader", "LEclipseCheese$Reader;", true)
  | 5 => ("EclipseCheese", "hasAlp", "Z", false)
  | 6 => ("EclipseCheese", "now", "LEclipseCheese$Held;", true)
  | 7 => ("EclipseCheese", "past", "LEclipseCheese$Past;", true)
  | 8 => ("EclipseCheese", "sky", "LEclipseCheese$Sky;", true)
  | 9 => ("EclipseCheese", "skyStands", "Z", false)
  | 10 => ("EclipseCheese", "night", "LEclipseCheese$Night;", true)
  | 11 => ("EclipseCheese", "nightStands", "Z", false)
  | 12 => ("EclipseCheese", "otherHeld", "LEclipseCheese$Held;", true)
  | 13 => ("EclipseCheese", "otherSky", "LEclipseCheese$Sky;", true)
  | 14 => ("EclipseCheese", "otherNight", "LEclipseCheese$Night;", true)
  | 15 => ("EclipseCheese", "fault", "I", false)
  | 16 => ("EclipseCheese", "place", "I", false)
  | _ => ("EclipseCheese", "trouble", "I", false)
def tyX10 : Nat → FieldType := fun k => match k with
  | 0 => .array .byte
  | 1 => .int
  | 2 => .object "EclipseCheese$Alp"
  | 3 => .object "EclipseCheese$Alp"
  | 4 => .object "EclipseCheese$Reader"
  | 5 => .boolean
  | 6 => .object "EclipseCheese$Held"
  | 7 => .object "EclipseCheese$Past"
  | 8 => .object "EclipseCheese$Sky"
  | 9 => .boolean
  | 10 => .object "EclipseCheese$Night"
  | 11 => .boolean
  | 12 => .object "EclipseCheese$Held"
  | 13 => .object "EclipseCheese$Sky"
  | 14 => .object "EclipseCheese$Night"
  | 15 => .int
  | 16 => .int
  | _ => .int
abbrev wsX100 : List Cond := u_ws RX10 TX10 18
theorem nmX10 : ∀ a, a < 18 → ∀ b, b < 18 → a ≠ b → (TX10 a).2.1 ≠ (TX10 b).2.1 := by decide +kernel
theorem tyX10_ok : ∀ k, k < 18 → parseFieldDescriptor (TX10 k).2.2.1 = some (tyX10 k) := by decide +kernel
abbrev cX10_init : ByteArray := prog_1_method_1_code
def yX10_init : MethodName := ⟨RX10, "<init>", "()V"⟩
abbrev cX10_feed : ByteArray := prog_1_method_2_code
def yX10_feed : MethodName := ⟨RX10, "feed", "(IIIII)I"⟩
abbrev cX10_alp : ByteArray := prog_1_method_3_code
def yX10_alp : MethodName := ⟨RX10, "alp", "(I)I"⟩
abbrev cX10_fault : ByteArray := prog_1_method_4_code
def yX10_fault : MethodName := ⟨RX10, "fault", "()I"⟩
abbrev cX10_where : ByteArray := prog_1_method_5_code
def yX10_where : MethodName := ⟨RX10, "where", "()I"⟩
abbrev cX10_sky : ByteArray := prog_1_method_6_code
def yX10_sky : MethodName := ⟨RX10, "sky", "(I)I"⟩
abbrev cX10_light : ByteArray := prog_1_method_7_code
def yX10_light : MethodName := ⟨RX10, "light", "(IIZ)I"⟩
abbrev cX10_changes : ByteArray := prog_1_method_8_code
def yX10_changes : MethodName := ⟨RX10, "changes", "(IZ)I"⟩
abbrev cX10_change : ByteArray := prog_1_method_9_code
def yX10_change : MethodName := ⟨RX10, "change", "(II)I"⟩
abbrev cX10_peak : ByteArray := prog_1_method_10_code
def yX10_peak : MethodName := ⟨RX10, "peak", "()I"⟩
abbrev cX10_due : ByteArray := prog_1_method_11_code
def yX10_due : MethodName := ⟨RX10, "due", "(I)I"⟩
abbrev cX10_awake : ByteArray := prog_1_method_12_code
def yX10_awake : MethodName := ⟨RX10, "awake", "(II)I"⟩
abbrev cX10_notices : ByteArray := prog_1_method_13_code
def yX10_notices : MethodName := ⟨RX10, "notices", "(III)I"⟩
abbrev cX10_work : ByteArray := prog_1_method_14_code
def yX10_work : MethodName := ⟨RX10, "work", "(II)I"⟩
abbrev cX10_worth : ByteArray := prog_1_method_15_code
def yX10_worth : MethodName := ⟨RX10, "worth", "(I)I"⟩
abbrev cX10_turned : ByteArray := prog_1_method_16_code
def yX10_turned : MethodName := ⟨RX10, "turned", "(II)I"⟩
abbrev cX10_up : ByteArray := prog_1_method_17_code
def yX10_up : MethodName := ⟨RX10, "up", "(II)I"⟩
abbrev cX10_cheese : ByteArray := prog_1_method_18_code
def yX10_cheese : MethodName := ⟨RX10, "cheese", "(II)I"⟩
abbrev cX10_vein : ByteArray := prog_1_method_19_code
def yX10_vein : MethodName := ⟨RX10, "vein", "(II)I"⟩
abbrev cX10_cause : ByteArray := prog_1_method_20_code
def yX10_cause : MethodName := ⟨RX10, "cause", "(II)I"⟩
abbrev cX10_total : ByteArray := prog_1_method_21_code
def yX10_total : MethodName := ⟨RX10, "total", "()I"⟩
abbrev cX10_without : ByteArray := prog_1_method_22_code
def yX10_without : MethodName := ⟨RX10, "without", "(I)I"⟩
abbrev cX10_wake : ByteArray := prog_1_method_23_code
def yX10_wake : MethodName := ⟨RX10, "wake", "()I"⟩
abbrev cX10_wakeTotal : ByteArray := prog_1_method_24_code
def yX10_wakeTotal : MethodName := ⟨RX10, "wakeTotal", "()I"⟩
abbrev cX10_fewest : ByteArray := prog_1_method_25_code
def yX10_fewest : MethodName := ⟨RX10, "fewest", "()I"⟩
abbrev cX10_fewestBy : ByteArray := prog_1_method_26_code
def yX10_fewestBy : MethodName := ⟨RX10, "fewestBy", "()I"⟩
abbrev cX10_fits : ByteArray := prog_1_method_27_code
def yX10_fits : MethodName := ⟨RX10, "fits", "(I)I"⟩
abbrev cX10_by : ByteArray := prog_1_method_28_code
def yX10_by : MethodName := ⟨RX10, "by", "(I)I"⟩
abbrev cX10_nights : ByteArray := prog_1_method_29_code
def yX10_nights : MethodName := ⟨RX10, "nights", "(III)I"⟩
abbrev cX10_call : ByteArray := prog_1_method_30_code
def yX10_call : MethodName := ⟨RX10, "call", "(IZ)Z"⟩
abbrev cX10_calls : ByteArray := prog_1_method_31_code
def yX10_calls : MethodName := ⟨RX10, "calls", "()I"⟩
abbrev cX10_cloud : ByteArray := prog_1_method_32_code
def yX10_cloud : MethodName := ⟨RX10, "cloud", "(II)Z"⟩
abbrev cX10_draw : ByteArray := prog_1_method_33_code
def yX10_draw : MethodName := ⟨RX10, "draw", "()I"⟩
abbrev cX10_lift : ByteArray := prog_1_method_34_code
def yX10_lift : MethodName := ⟨RX10, "lift", "()Z"⟩
abbrev cX10_seed : ByteArray := prog_1_method_35_code
def yX10_seed : MethodName := ⟨RX10, "seed", "(I)Z"⟩
abbrev cX10_undo : ByteArray := prog_1_method_36_code
def yX10_undo : MethodName := ⟨RX10, "undo", "()Z"⟩
abbrev cX10_mark : ByteArray := prog_1_method_37_code
def yX10_mark : MethodName := ⟨RX10, "mark", "()I"⟩
abbrev cX10_back : ByteArray := prog_1_method_38_code
def yX10_back : MethodName := ⟨RX10, "back", "(I)Z"⟩
abbrev cX10_event : ByteArray := prog_1_method_39_code
def yX10_event : MethodName := ⟨RX10, "event", "(II)I"⟩
abbrev cX10_led : ByteArray := prog_1_method_40_code
def yX10_led : MethodName := ⟨RX10, "led", "(I)I"⟩
abbrev cX10_size : ByteArray := prog_1_method_41_code
def yX10_size : MethodName := ⟨RX10, "size", "(I)I"⟩
abbrev cX10_trouble : ByteArray := prog_1_method_42_code
def yX10_trouble : MethodName := ⟨RX10, "trouble", "()I"⟩
abbrev cX10_answered : ByteArray := prog_1_method_43_code
def yX10_answered : MethodName := ⟨RX10, "answered", "(I)I"⟩
abbrev cX10_allowed : ByteArray := prog_1_method_44_code
def yX10_allowed : MethodName := ⟨RX10, "allowed", "()Z"⟩
abbrev cX10_refused : ByteArray := prog_1_method_45_code
def yX10_refused : MethodName := ⟨RX10, "refused", "(I)I"⟩
abbrev cX10_refusedTotal : ByteArray := prog_1_method_46_code
def yX10_refusedTotal : MethodName := ⟨RX10, "refusedTotal", "(I)I"⟩
abbrev cX10_refusedAct : ByteArray := prog_1_method_47_code
def yX10_refusedAct : MethodName := ⟨RX10, "refusedAct", "(I)Z"⟩
abbrev cX10_isMinute : ByteArray := prog_1_method_48_code
def yX10_isMinute : MethodName := ⟨RX10, "isMinute", "(I)Z"⟩
abbrev cX10_isHut : ByteArray := prog_1_method_49_code
def yX10_isHut : MethodName := ⟨RX10, "isHut", "(I)Z"⟩
abbrev cX10_isTurner : ByteArray := prog_1_method_50_code
def yX10_isTurner : MethodName := ⟨RX10, "isTurner", "(I)Z"⟩
abbrev cX10_isCheese : ByteArray := prog_1_method_51_code
def yX10_isCheese : MethodName := ⟨RX10, "isCheese", "(I)Z"⟩
abbrev cX10_isSlice : ByteArray := prog_1_method_52_code
def yX10_isSlice : MethodName := ⟨RX10, "isSlice", "(I)Z"⟩
abbrev cX10_isEvent : ByteArray := prog_1_method_53_code
def yX10_isEvent : MethodName := ⟨RX10, "isEvent", "(I)Z"⟩
abbrev cX10_isSeed : ByteArray := prog_1_method_54_code
def yX10_isSeed : MethodName := ⟨RX10, "isSeed", "(I)Z"⟩
abbrev cX10_bit : ByteArray := prog_1_method_55_code
def yX10_bit : MethodName := ⟨RX10, "bit", "(II)I"⟩
abbrev cX10_putBytes : ByteArray := prog_1_method_56_code
def yX10_putBytes : MethodName := ⟨RX10, "putBytes", "(I)V"⟩
abbrev cX10_cloudsMoved : ByteArray := prog_1_method_57_code
def yX10_cloudsMoved : MethodName := ⟨RX10, "cloudsMoved", "()V"⟩
abbrev cX10_presentSky : ByteArray := prog_1_method_58_code
def yX10_presentSky : MethodName := ⟨RX10, "presentSky", "()LEclipseCheese$Sky;"⟩
abbrev cX10_presentNight : ByteArray := prog_1_method_59_code
def yX10_presentNight : MethodName := ⟨RX10, "presentNight", "()LEclipseCheese$Night;"⟩
abbrev cX10_allTurners : ByteArray := prog_1_method_60_code
def yX10_allTurners : MethodName := ⟨RX10, "allTurners", "()I"⟩
abbrev cX10_allCalls : ByteArray := prog_1_method_61_code
def yX10_allCalls : MethodName := ⟨RX10, "allCalls", "()I"⟩
abbrev cX10_eventCount : ByteArray := prog_1_method_62_code
def yX10_eventCount : MethodName := ⟨RX10, "eventCount", "()I"⟩
abbrev cX10_eventFrom : ByteArray := prog_1_method_63_code
def yX10_eventFrom : MethodName := ⟨RX10, "eventFrom", "(I)I"⟩
abbrev cX10_eventTo : ByteArray := prog_1_method_64_code
def yX10_eventTo : MethodName := ⟨RX10, "eventTo", "(I)I"⟩
abbrev cX10_veinMinute : ByteArray := prog_1_method_65_code
def yX10_veinMinute : MethodName := ⟨RX10, "veinMinute", "(II)I"⟩
abbrev cX10_bestCalls : ByteArray := prog_1_method_66_code
def yX10_bestCalls : MethodName := ⟨RX10, "bestCalls", "()I"⟩
abbrev cX10_fewestTurners : ByteArray := prog_1_method_67_code
def yX10_fewestTurners : MethodName := ⟨RX10, "fewestTurners", "()I"⟩
def RX11 : String := "EclipseCheeseModel$Alp"
def TX11 : u_T := fun k => match k with
  | 0 => ("EclipseCheeseModel$Alp", "minutes", "I", false)
  | 1 => ("EclipseCheeseModel$Alp", "huts", "I", false)
  | 2 => ("EclipseCheeseModel$Alp", "events", "I", false)
  | 3 => ("EclipseCheeseModel$Alp", "cheeses", "I", false)
  | 4 => ("EclipseCheeseModel$Alp", "turners", "I", false)
  | 5 => ("EclipseCheeseModel$Alp", "calls", "I", false)
  | 6 => ("EclipseCheeseModel$Alp", "slices", "I", false)
  | 7 => ("EclipseCheeseModel$Alp", "names", "I", false)
  | 8 => ("EclipseCheeseModel$Alp", "almanacMany", "I", false)
  | 9 => ("EclipseCheeseModel$Alp", "hasAlmanac", "Z", false)
  | 10 => ("EclipseCheeseModel$Alp", "price", "[I", true)
  | 11 => ("EclipseCheeseModel$Alp", "kind", "[I", true)
  | 12 => ("EclipseCheeseModel$Alp", "hut", "[I", true)
  | 13 => ("EclipseCheeseModel$Alp", "from", "[I", true)
  | 14 => ("EclipseCheeseModel$Alp", "to", "[I", true)
  | 15 => ("EclipseCheeseModel$Alp", "cheeseHut", "[I", true)
  | 16 => ("EclipseCheeseModel$Alp", "almanac", "[I", true)
  | 17 => ("EclipseCheeseModel$Alp", "sliceMany", "[I", true)
  | 18 => ("EclipseCheeseModel$Alp", "slice", "[I", true)
  | 19 => ("EclipseCheeseModel$Alp", "isDown", "[Z", true)
  | 20 => ("EclipseCheeseModel$Alp", "turnerKind", "[I", true)
  | 21 => ("EclipseCheeseModel$Alp", "turnerFrom", "[I", true)
  | 22 => ("EclipseCheeseModel$Alp", "turnerTo", "[I", true)
  | 23 => ("EclipseCheeseModel$Alp", "hands", "[I", true)
  | 24 => ("EclipseCheeseModel$Alp", "takes", "[I", true)
  | 25 => ("EclipseCheeseModel$Alp", "turnerHuts", "[I", true)
  | 26 => ("EclipseCheeseModel$Alp", "callTurner", "[I", true)
  | 27 => ("EclipseCheeseModel$Alp", "callAt", "[I", true)
  | 28 => ("EclipseCheeseModel$Alp", "callFor", "[I", true)
  | 29 => ("EclipseCheeseModel$Alp", "callCosts", "[I", true)
  | 30 => ("EclipseCheeseModel$Alp", "name", "[J", true)
  | 31 => ("EclipseCheeseModel$Alp", "nameSort", "[I", true)
  | _ => ("EclipseCheeseModel$Alp", "nameNumber", "[I", true)
def tyX11 : Nat → FieldType := fun k => match k with
  | 0 => .int
  | 1 => .int
  | 2 => .int
  | 3 => .int
  | 4 => .int
  | 5 => .int
  | 6 => .int
  | 7 => .int
  | 8 => .int
  | 9 => .boolean
  | 10 => .array .int
  | 11 => .array .int
  | 12 => .array .int
  | 13 => .array .int
  | 14 => .array .int
  | 15 => .array .int
  | 16 => .array .int
  | 17 => .array .int
  | 18 => .array .int
  | 19 => .array .boolean
  | 20 => .array .int
  | 21 => .array .int
  | 22 => .array .int
  | 23 => .array .int
  | 24 => .array .int
  | 25 => .array .int
  | 26 => .array .int
  | 27 => .array .int
  | 28 => .array .int
  | 29 => .array .int
  | 30 => .array .long
  | 31 => .array .int
  | _ => .array .int
abbrev wsX110 : List Cond := u_ws RX11 TX11 33
theorem nmX11 : ∀ a, a < 33 → ∀ b, b < 33 → a ≠ b → (TX11 a).2.1 ≠ (TX11 b).2.1 := by decide +kernel
theorem tyX11_ok : ∀ k, k < 33 → parseFieldDescriptor (TX11 k).2.2.1 = some (tyX11 k) := by decide +kernel
abbrev cX11_init : ByteArray := prog_14_method_1_code
def yX11_init : MethodName := ⟨RX11, "<init>", "()V"⟩
abbrev cX11_find : ByteArray := prog_14_method_2_code
def yX11_find : MethodName := ⟨RX11, "find", "(J)I"⟩
def RX12 : String := "EclipseCheeseModel"
def TX12 : u_T := fun k => match k with
  | 0 => ("EclipseCheeseModel", "thrown", "I", false)
  | 1 => ("EclipseCheeseModel", "trouble", "I", false)
  | 2 => ("EclipseCheeseModel", "where", "I", false)
  | 3 => ("EclipseCheeseModel", "alp", "LEclipseCheeseModel$Alp;", false)
  | 4 => ("EclipseCheeseModel", "read", "LEclipseCheeseModel$Alp;", false)
  | 5 => ("EclipseCheeseModel", "tape", "[B", true)
  | 6 => ("EclipseCheeseModel", "taped", "I", false)
  | 7 => ("EclipseCheeseModel", "size", "I", false)
  | 8 => ("EclipseCheeseModel", "spot", "I", false)
  | 9 => ("EclipseCheeseModel", "sort", "I", false)
  | 10 => ("EclipseCheeseModel", "place", "I", false)
  | 11 => ("EclipseCheeseModel", "sign", "I", false)
  | 12 => ("EclipseCheeseModel", "number", "I", false)
  | 13 => ("EclipseCheeseModel", "fault", "I", false)
  | 14 => ("EclipseCheeseModel", "wrongAt", "I", false)
  | 15 => ("EclipseCheeseModel", "word", "J", false)
  | 16 => ("EclipseCheeseModel", "w", "[I", true)
  | 17 => ("EclipseCheeseModel", "past", "[I", true)
  | 18 => ("EclipseCheeseModel", "kept", "[I", true)
  | 19 => ("EclipseCheeseModel", "acts", "I", false)
  | 20 => ("EclipseCheeseModel", "marks", "I", false)
  | 21 => ("EclipseCheeseModel", "sky", "[Z", true)
  | 22 => ("EclipseCheeseModel", "light", "[Z", true)
  | 23 => ("EclipseCheeseModel", "seems", "[Z", true)
  | 24 => ("EclipseCheeseModel", "eclipsed", "[Z", true)
  | 25 => ("EclipseCheeseModel", "struck", "[Z", true)
  | 26 => ("EclipseCheeseModel", "shut", "[Z", true)
  | 27 => ("EclipseCheeseModel", "turnedBy", "[I", true)
  | 28 => ("EclipseCheeseModel", "free", "[I", true)
  | 29 => ("EclipseCheeseModel", "right", "[I", true)
  | 30 => ("EclipseCheeseModel", "missed", "[I", true)
  | 31 => ("EclipseCheeseModel", "wrong", "[I", true)
  | 32 => ("EclipseCheeseModel", "cracked", "[I", true)
  | 33 => ("EclipseCheeseModel", "isUp", "[Z", true)
  | 34 => ("EclipseCheeseModel", "wakeBest", "I", false)
  | _ => ("EclipseCheeseModel", "held", "[I", true)
def tyX12 : Nat → FieldType := fun k => match k with
  | 0 => .int
  | 1 => .int
  | 2 => .int
  | 3 => .object "EclipseCheeseModel$Alp"
  | 4 => .object "EclipseCheeseModel$Alp"
  | 5 => .array .byte
  | 6 => .int
  | 7 => .int
  | 8 => .int
  | 9 => .int
  | 10 => .int
  | 11 => .int
  | 12 => .int
  | 13 => .int
  | 14 => .int
  | 15 => .long
  | 16 => .array .int
  | 17 => .array .int
  | 18 => .array .int
  | 19 => .int
  | 20 => .int
  | 21 => .array .boolean
  | 22 => .array .boolean
  | 23 => .array .boolean
  | 24 => .array .boolean
  | 25 => .array .boolean
  | 26 => .array .boolean
  | 27 => .array .int
  | 28 => .array .int
  | 29 => .array .int
  | 30 => .array .int
  | 31 => .array .int
  | 32 => .array .int
  | 33 => .array .boolean
  | 34 => .int
  | _ => .array .int
abbrev wsX120 : List Cond := u_ws RX12 TX12 36
theorem nmX12 : ∀ a, a < 36 → ∀ b, b < 36 → a ≠ b → (TX12 a).2.1 ≠ (TX12 b).2.1 := by decide +kernel
theorem tyX12_ok : ∀ k, k < 36 → parseFieldDescriptor (TX12 k).2.2.1 = some (tyX12 k) := by decide +kernel
abbrev cX12_init : ByteArray := prog_13_method_1_code
def yX12_init : MethodName := ⟨RX12, "<init>", "()V"⟩
abbrev cX12_thrown : ByteArray := prog_13_method_2_code
def yX12_thrown : MethodName := ⟨RX12, "thrown", "()I"⟩
abbrev cX12_refused : ByteArray := prog_13_method_3_code
def yX12_refused : MethodName := ⟨RX12, "refused", "(I)I"⟩
abbrev cX12_lost : ByteArray := prog_13_method_4_code
def yX12_lost : MethodName := ⟨RX12, "lost", "(I)I"⟩
abbrev cX12_denied : ByteArray := prog_13_method_5_code
def yX12_denied : MethodName := ⟨RX12, "denied", "(I)Z"⟩
abbrev cX12_good : ByteArray := prog_13_method_6_code
def yX12_good : MethodName := ⟨RX12, "good", "(I)I"⟩
abbrev cX12_granted : ByteArray := prog_13_method_7_code
def yX12_granted : MethodName := ⟨RX12, "granted", "()Z"⟩
abbrev cX12_in : ByteArray := prog_13_method_8_code
def yX12_in : MethodName := ⟨RX12, "in", "(III)Z"⟩
abbrev cX12_has : ByteArray := prog_13_method_9_code
def yX12_has : MethodName := ⟨RX12, "has", "(II)Z"⟩
abbrev cX12_bits : ByteArray := prog_13_method_10_code
def yX12_bits : MethodName := ⟨RX12, "bits", "(I)I"⟩
abbrev cX12_byteAt : ByteArray := prog_13_method_11_code
def yX12_byteAt : MethodName := ⟨RX12, "byteAt", "(I)I"⟩
abbrev cX12_isLetter : ByteArray := prog_13_method_12_code
def yX12_isLetter : MethodName := ⟨RX12, "isLetter", "(I)Z"⟩
abbrev cX12_isDigit : ByteArray := prog_13_method_13_code
def yX12_isDigit : MethodName := ⟨RX12, "isDigit", "(I)Z"⟩
abbrev cX12_wordOf : ByteArray := prog_13_method_14_code
def yX12_wordOf : MethodName := ⟨RX12, "wordOf", "(Ljava/lang/String;)J"⟩
abbrev cX12_goesOn : ByteArray := prog_13_method_15_code
def yX12_goesOn : MethodName := ⟨RX12, "goesOn", "()V"⟩
abbrev cX12_flaw : ByteArray := prog_13_method_16_code
def yX12_flaw : MethodName := ⟨RX12, "flaw", "(I)V"⟩
abbrev cX12_isWord : ByteArray := prog_13_method_17_code
def yX12_isWord : MethodName := ⟨RX12, "isWord", "(Ljava/lang/String;)Z"⟩
abbrev cX12_eatsWord : ByteArray := prog_13_method_18_code
def yX12_eatsWord : MethodName := ⟨RX12, "eatsWord", "(Ljava/lang/String;)Z"⟩
abbrev cX12_eatsSign : ByteArray := prog_13_method_19_code
def yX12_eatsSign : MethodName := ⟨RX12, "eatsSign", "(I)Z"⟩
abbrev cX12_needs : ByteArray := prog_13_method_20_code
def yX12_needs : MethodName := ⟨RX12, "needs", "(Ljava/lang/String;)V"⟩
abbrev cX12_needsSign : ByteArray := prog_13_method_21_code
def yX12_needsSign : MethodName := ⟨RX12, "needsSign", "(I)V"⟩
abbrev cX12_bounded : ByteArray := prog_13_method_22_code
def yX12_bounded : MethodName := ⟨RX12, "bounded", "(II)I"⟩
abbrev cX12_readWhole : ByteArray := prog_13_method_23_code
def yX12_readWhole : MethodName := ⟨RX12, "readWhole", "(II)I"⟩
abbrev cX12_readPart : ByteArray := prog_13_method_24_code
def yX12_readPart : MethodName := ⟨RX12, "readPart", "(Ljava/lang/String;II)I"⟩
abbrev cX12_isName : ByteArray := prog_13_method_25_code
def yX12_isName : MethodName := ⟨RX12, "isName", "()Z"⟩
abbrev cX12_begins : ByteArray := prog_13_method_26_code
def yX12_begins : MethodName := ⟨RX12, "begins", "(II)V"⟩
abbrev cX12_readFresh : ByteArray := prog_13_method_27_code
def yX12_readFresh : MethodName := ⟨RX12, "readFresh", "()J"⟩
abbrev cX12_names : ByteArray := prog_13_method_28_code
def yX12_names : MethodName := ⟨RX12, "names", "(JII)V"⟩
abbrev cX12_readAll : ByteArray := prog_13_method_29_code
def yX12_readAll : MethodName := ⟨RX12, "readAll", "()V"⟩
abbrev cX12_readLine : ByteArray := prog_13_method_30_code
def yX12_readLine : MethodName := ⟨RX12, "readLine", "()V"⟩
abbrev cX12_readAlp : ByteArray := prog_13_method_31_code
def yX12_readAlp : MethodName := ⟨RX12, "readAlp", "()V"⟩
abbrev cX12_readEvent : ByteArray := prog_13_method_32_code
def yX12_readEvent : MethodName := ⟨RX12, "readEvent", "(I)V"⟩
abbrev cX12_readCheese : ByteArray := prog_13_method_33_code
def yX12_readCheese : MethodName := ⟨RX12, "readCheese", "()V"⟩
abbrev cX12_readRising : ByteArray := prog_13_method_34_code
def yX12_readRising : MethodName := ⟨RX12, "readRising", "([III)I"⟩
abbrev cX12_readAlmanac : ByteArray := prog_13_method_35_code
def yX12_readAlmanac : MethodName := ⟨RX12, "readAlmanac", "()V"⟩
abbrev cX12_readTurner : ByteArray := prog_13_method_36_code
def yX12_readTurner : MethodName := ⟨RX12, "readTurner", "()V"⟩
abbrev cX12_readCall : ByteArray := prog_13_method_37_code
def yX12_readCall : MethodName := ⟨RX12, "readCall", "()V"⟩
abbrev cX12_readSlice : ByteArray := prog_13_method_38_code
def yX12_readSlice : MethodName := ⟨RX12, "readSlice", "()V"⟩
abbrev cX12_feed : ByteArray := prog_13_method_39_code
def yX12_feed : MethodName := ⟨RX12, "feed", "(IIIII)I"⟩
abbrev cX12_alp : ByteArray := prog_13_method_40_code
def yX12_alp : MethodName := ⟨RX12, "alp", "(I)I"⟩
abbrev cX12_fault : ByteArray := prog_13_method_41_code
def yX12_fault : MethodName := ⟨RX12, "fault", "()I"⟩
abbrev cX12_where : ByteArray := prog_13_method_42_code
def yX12_where : MethodName := ⟨RX12, "where", "()I"⟩
abbrev cX12_events : ByteArray := prog_13_method_43_code
def yX12_events : MethodName := ⟨RX12, "events", "()I"⟩
abbrev cX12_kindOf : ByteArray := prog_13_method_44_code
def yX12_kindOf : MethodName := ⟨RX12, "kindOf", "(I)I"⟩
abbrev cX12_hutOf : ByteArray := prog_13_method_45_code
def yX12_hutOf : MethodName := ⟨RX12, "hutOf", "(I)I"⟩
abbrev cX12_fromOf : ByteArray := prog_13_method_46_code
def yX12_fromOf : MethodName := ⟨RX12, "fromOf", "(I)I"⟩
abbrev cX12_toOf : ByteArray := prog_13_method_47_code
def yX12_toOf : MethodName := ⟨RX12, "toOf", "(I)I"⟩
abbrev cX12_laysLight : ByteArray := prog_13_method_48_code
def yX12_laysLight : MethodName := ⟨RX12, "laysLight", "(I)V"⟩
abbrev cX12_marksLight : ByteArray := prog_13_method_49_code
def yX12_marksLight : MethodName := ⟨RX12, "marksLight", "(II)V"⟩
abbrev cX12_changesIn : ByteArray := prog_13_method_50_code
def yX12_changesIn : MethodName := ⟨RX12, "changesIn", "(II)Z"⟩
abbrev cX12_seemsToIn : ByteArray := prog_13_method_51_code
def yX12_seemsToIn : MethodName := ⟨RX12, "seemsToIn", "(II)Z"⟩
abbrev cX12_isInAlmanac : ByteArray := prog_13_method_52_code
def yX12_isInAlmanac : MethodName := ⟨RX12, "isInAlmanac", "(I)Z"⟩
abbrev cX12_noticesIn : ByteArray := prog_13_method_53_code
def yX12_noticesIn : MethodName := ⟨RX12, "noticesIn", "(III)Z"⟩
abbrev cX12_isAwake : ByteArray := prog_13_method_54_code
def yX12_isAwake : MethodName := ⟨RX12, "isAwake", "(III)Z"⟩
abbrev cX12_goes : ByteArray := prog_13_method_55_code
def yX12_goes : MethodName := ⟨RX12, "goes", "(II)I"⟩
abbrev cX12_turns : ByteArray := prog_13_method_56_code
def yX12_turns : MethodName := ⟨RX12, "turns", "(II)V"⟩
abbrev cX12_notes : ByteArray := prog_13_method_57_code
def yX12_notes : MethodName := ⟨RX12, "notes", "(II)V"⟩
abbrev cX12_priceOf : ByteArray := prog_13_method_58_code
def yX12_priceOf : MethodName := ⟨RX12, "priceOf", "(I)I"⟩
abbrev cX12_everybody : ByteArray := prog_13_method_59_code
def yX12_everybody : MethodName := ⟨RX12, "everybody", "()I"⟩
abbrev cX12_tonight : ByteArray := prog_13_method_60_code
def yX12_tonight : MethodName := ⟨RX12, "tonight", "()I"⟩
abbrev cX12_isHut : ByteArray := prog_13_method_61_code
def yX12_isHut : MethodName := ⟨RX12, "isHut", "(I)Z"⟩
abbrev cX12_isTurner : ByteArray := prog_13_method_62_code
def yX12_isTurner : MethodName := ⟨RX12, "isTurner", "(I)Z"⟩
abbrev cX12_isCheese : ByteArray := prog_13_method_63_code
def yX12_isCheese : MethodName := ⟨RX12, "isCheese", "(I)Z"⟩
abbrev cX12_isMinute : ByteArray := prog_13_method_64_code
def yX12_isMinute : MethodName := ⟨RX12, "isMinute", "(I)Z"⟩
abbrev cX12_sky : ByteArray := prog_13_method_65_code
def yX12_sky : MethodName := ⟨RX12, "sky", "(I)I"⟩
abbrev cX12_light : ByteArray := prog_13_method_66_code
def yX12_light : MethodName := ⟨RX12, "light", "(IIZ)I"⟩
abbrev cX12_changes : ByteArray := prog_13_method_67_code
def yX12_changes : MethodName := ⟨RX12, "changes", "(IZ)I"⟩
abbrev cX12_change : ByteArray := prog_13_method_68_code
def yX12_change : MethodName := ⟨RX12, "change", "(II)I"⟩
abbrev cX12_dueIn : ByteArray := prog_13_method_69_code
def yX12_dueIn : MethodName := ⟨RX12, "dueIn", "(I)I"⟩
abbrev cX12_peak : ByteArray := prog_13_method_70_code
def yX12_peak : MethodName := ⟨RX12, "peak", "()I"⟩
abbrev cX12_due : ByteArray := prog_13_method_71_code
def yX12_due : MethodName := ⟨RX12, "due", "(I)I"⟩
abbrev cX12_awake : ByteArray := prog_13_method_72_code
def yX12_awake : MethodName := ⟨RX12, "awake", "(II)I"⟩
abbrev cX12_notices : ByteArray := prog_13_method_73_code
def yX12_notices : MethodName := ⟨RX12, "notices", "(III)I"⟩
abbrev cX12_work : ByteArray := prog_13_method_74_code
def yX12_work : MethodName := ⟨RX12, "work", "(II)I"⟩
abbrev cX12_worth : ByteArray := prog_13_method_75_code
def yX12_worth : MethodName := ⟨RX12, "worth", "(I)I"⟩
abbrev cX12_turned : ByteArray := prog_13_method_76_code
def yX12_turned : MethodName := ⟨RX12, "turned", "(II)I"⟩
abbrev cX12_up : ByteArray := prog_13_method_77_code
def yX12_up : MethodName := ⟨RX12, "up", "(II)I"⟩
abbrev cX12_cheese : ByteArray := prog_13_method_78_code
def yX12_cheese : MethodName := ⟨RX12, "cheese", "(II)I"⟩
abbrev cX12_veinAt : ByteArray := prog_13_method_79_code
def yX12_veinAt : MethodName := ⟨RX12, "veinAt", "(II)I"⟩
abbrev cX12_vein : ByteArray := prog_13_method_80_code
def yX12_vein : MethodName := ⟨RX12, "vein", "(II)I"⟩
abbrev cX12_cause : ByteArray := prog_13_method_81_code
def yX12_cause : MethodName := ⟨RX12, "cause", "(II)I"⟩
abbrev cX12_total : ByteArray := prog_13_method_82_code
def yX12_total : MethodName := ⟨RX12, "total", "()I"⟩
abbrev cX12_isEvent : ByteArray := prog_13_method_83_code
def yX12_isEvent : MethodName := ⟨RX12, "isEvent", "(I)Z"⟩
abbrev cX12_without : ByteArray := prog_13_method_84_code
def yX12_without : MethodName := ⟨RX12, "without", "(I)I"⟩
abbrev cX12_wakeNow : ByteArray := prog_13_method_85_code
def yX12_wakeNow : MethodName := ⟨RX12, "wakeNow", "()I"⟩
abbrev cX12_wake : ByteArray := prog_13_method_86_code
def yX12_wake : MethodName := ⟨RX12, "wake", "()I"⟩
abbrev cX12_wakeTotal : ByteArray := prog_13_method_87_code
def yX12_wakeTotal : MethodName := ⟨RX12, "wakeTotal", "()I"⟩
abbrev cX12_missesNone : ByteArray := prog_13_method_88_code
def yX12_missesNone : MethodName := ⟨RX12, "missesNone", "(I)Z"⟩
abbrev cX12_fewestNow : ByteArray := prog_13_method_89_code
def yX12_fewestNow : MethodName := ⟨RX12, "fewestNow", "()I"⟩
abbrev cX12_fewest : ByteArray := prog_13_method_90_code
def yX12_fewest : MethodName := ⟨RX12, "fewest", "()I"⟩
abbrev cX12_fewestBy : ByteArray := prog_13_method_91_code
def yX12_fewestBy : MethodName := ⟨RX12, "fewestBy", "()I"⟩
abbrev cX12_isSlice : ByteArray := prog_13_method_92_code
def yX12_isSlice : MethodName := ⟨RX12, "isSlice", "(I)Z"⟩
abbrev cX12_fitsNow : ByteArray := prog_13_method_93_code
def yX12_fitsNow : MethodName := ⟨RX12, "fitsNow", "(I)I"⟩
abbrev cX12_fits : ByteArray := prog_13_method_94_code
def yX12_fits : MethodName := ⟨RX12, "fits", "(I)I"⟩
abbrev cX12_by : ByteArray := prog_13_method_95_code
def yX12_by : MethodName := ⟨RX12, "by", "(I)I"⟩
abbrev cX12_comes : ByteArray := prog_13_method_96_code
def yX12_comes : MethodName := ⟨RX12, "comes", "(II)V"⟩
abbrev cX12_drawOf : ByteArray := prog_13_method_97_code
def yX12_drawOf : MethodName := ⟨RX12, "drawOf", "(I)I"⟩
abbrev cX12_draws : ByteArray := prog_13_method_98_code
def yX12_draws : MethodName := ⟨RX12, "draws", "()I"⟩
abbrev cX12_nights : ByteArray := prog_13_method_99_code
def yX12_nights : MethodName := ⟨RX12, "nights", "(III)I"⟩
abbrev cX12_keeps : ByteArray := prog_13_method_100_code
def yX12_keeps : MethodName := ⟨RX12, "keeps", "()V"⟩
abbrev cX12_call : ByteArray := prog_13_method_101_code
def yX12_call : MethodName := ⟨RX12, "call", "(IZ)Z"⟩
abbrev cX12_calls : ByteArray := prog_13_method_102_code
def yX12_calls : MethodName := ⟨RX12, "calls", "()I"⟩
abbrev cX12_cloud : ByteArray := prog_13_method_103_code
def yX12_cloud : MethodName := ⟨RX12, "cloud", "(II)Z"⟩
abbrev cX12_draw : ByteArray := prog_13_method_104_code
def yX12_draw : MethodName := ⟨RX12, "draw", "()I"⟩
abbrev cX12_lift : ByteArray := prog_13_method_105_code
def yX12_lift : MethodName := ⟨RX12, "lift", "()Z"⟩
abbrev cX12_seed : ByteArray := prog_13_method_106_code
def yX12_seed : MethodName := ⟨RX12, "seed", "(I)Z"⟩
abbrev cX12_undo : ByteArray := prog_13_method_107_code
def yX12_undo : MethodName := ⟨RX12, "undo", "()Z"⟩
abbrev cX12_mark : ByteArray := prog_13_method_108_code
def yX12_mark : MethodName := ⟨RX12, "mark", "()I"⟩
abbrev cX12_back : ByteArray := prog_13_method_109_code
def yX12_back : MethodName := ⟨RX12, "back", "(I)Z"⟩
abbrev cX12_event : ByteArray := prog_13_method_110_code
def yX12_event : MethodName := ⟨RX12, "event", "(II)I"⟩
abbrev cX12_led : ByteArray := prog_13_method_111_code
def yX12_led : MethodName := ⟨RX12, "led", "(I)I"⟩
abbrev cX12_size : ByteArray := prog_13_method_112_code
def yX12_size : MethodName := ⟨RX12, "size", "(I)I"⟩
abbrev cX12_trouble : ByteArray := prog_13_method_113_code
def yX12_trouble : MethodName := ⟨RX12, "trouble", "()I"⟩
def RJx145de : String := "java/io/Serializable"
def TJx145de : u_T := fun k => match k with
  | _ => ("", "", "", false)
def tyJx145de : Nat → FieldType := fun k => match k with
  | _ => .int
abbrev wsJx145de0 : List Cond := u_ws RJx145de TJx145de 0
theorem tyJx145de_ok : ∀ k, k < 0 → parseFieldDescriptor (TJx145de k).2.2.1 = some (tyJx145de k) := by decide +kernel
def RJx9f9b0 : String := "java/lang/CharSequence"
def TJx9f9b0 : u_T := fun k => match k with
  | _ => ("", "", "", false)
def tyJx9f9b0 : Nat → FieldType := fun k => match k with
  | _ => .int
abbrev wsJx9f9b00 : List Cond := u_ws RJx9f9b0 TJx9f9b0 0
theorem tyJx9f9b0_ok : ∀ k, k < 0 → parseFieldDescriptor (TJx9f9b0 k).2.2.1 = some (tyJx9f9b0 k) := by decide +kernel
def RJxb160c : String := "java/lang/Comparable"
def TJxb160c : u_T := fun k => match k with
  | _ => ("", "", "", false)
def tyJxb160c : Nat → FieldType := fun k => match k with
  | _ => .int
abbrev wsJxb160c0 : List Cond := u_ws RJxb160c TJxb160c 0
theorem tyJxb160c_ok : ∀ k, k < 0 → parseFieldDescriptor (TJxb160c k).2.2.1 = some (tyJxb160c k) := by decide +kernel
def RJ6 : String := "java/lang/Integer"
def TJ6 : u_T := fun k => match k with
  | _ => ("", "", "", false)
def tyJ6 : Nat → FieldType := fun k => match k with
  | _ => .int
abbrev wsJ60 : List Cond := u_ws RJ6 TJ6 0
theorem tyJ6_ok : ∀ k, k < 0 → parseFieldDescriptor (TJ6 k).2.2.1 = some (tyJ6 k) := by decide +kernel
abbrev cJ6_bitCount_0f7a4 : ByteArray := prog_19_method_49_code
def yJ6_bitCount_0f7a4 : MethodName := ⟨RJ6, "bitCount", "(I)I"⟩
def RJ9 : String := "java/lang/Math"
def TJ9 : u_T := fun k => match k with
  | _ => ("", "", "", false)
def tyJ9 : Nat → FieldType := fun k => match k with
  | _ => .int
abbrev wsJ90 : List Cond := u_ws RJ9 TJ9 0
theorem tyJ9_ok : ∀ k, k < 0 → parseFieldDescriptor (TJ9 k).2.2.1 = some (tyJ9 k) := by decide +kernel
abbrev cJ9_max_7cf53 : ByteArray := prog_20_method_65_code
def yJ9_max_7cf53 : MethodName := ⟨RJ9, "max", "(II)I"⟩
abbrev cJ9_min_7cf53 : ByteArray := prog_20_method_69_code
def yJ9_min_7cf53 : MethodName := ⟨RJ9, "min", "(II)I"⟩
def RJ0 : String := "java/lang/String"
def TJ0 : u_T := fun k => match k with
  | _ => ("", "", "", false)
def tyJ0 : Nat → FieldType := fun k => match k with
  | _ => .int
abbrev wsJ00 : List Cond := u_ws RJ0 TJ0 0
theorem tyJ0_ok : ∀ k, k < 0 → parseFieldDescriptor (TJ0 k).2.2.1 = some (tyJ0 k) := by decide +kernel
abbrev cJ0_length_8abf5 : ByteArray := prog_22_method_54_code
def yJ0_length_8abf5 : MethodName := ⟨RJ0, "length", "()I"⟩
abbrev cJ0_charAt_5068e : ByteArray := prog_22_method_56_code
def yJ0_charAt_5068e : MethodName := ⟨RJ0, "charAt", "(I)C"⟩
abbrev cJ0_coder_7d493 : ByteArray := prog_22_method_152_code
def yJ0_coder_7d493 : MethodName := ⟨RJ0, "coder", "()B"⟩
abbrev cJ0_isLatin1_aae02 : ByteArray := prog_22_method_154_code
def yJ0_isLatin1_aae02 : MethodName := ⟨RJ0, "isLatin1", "()Z"⟩
abbrev cJ0_checkIndex_df160 : ByteArray := prog_22_method_155_code
def yJ0_checkIndex_df160 : MethodName := ⟨RJ0, "checkIndex", "(II)V"⟩
def RJ1 : String := "java/lang/StringLatin1"
def TJ1 : u_T := fun k => match k with
  | _ => ("", "", "", false)
def tyJ1 : Nat → FieldType := fun k => match k with
  | _ => .int
abbrev wsJ10 : List Cond := u_ws RJ1 TJ1 0
theorem tyJ1_ok : ∀ k, k < 0 → parseFieldDescriptor (TJ1 k).2.2.1 = some (tyJ1 k) := by decide +kernel
abbrev cJ1_charAt_3b067 : ByteArray := prog_23_method_2_code
def yJ1_charAt_3b067 : MethodName := ⟨RJ1, "charAt", "([BI)C"⟩
def RJ2 : String := "java/lang/StringUTF16"
def TJ2 : u_T := fun k => match k with
  | _ => ("", "", "", false)
def tyJ2 : Nat → FieldType := fun k => match k with
  | _ => .int
abbrev wsJ20 : List Cond := u_ws RJ2 TJ2 0
theorem tyJ2_ok : ∀ k, k < 0 → parseFieldDescriptor (TJ2 k).2.2.1 = some (tyJ2 k) := by decide +kernel
abbrev cJ2_getChar_3b067 : ByteArray := prog_24_method_5_code
def yJ2_getChar_3b067 : MethodName := ⟨RJ2, "getChar", "([BI)C"⟩
abbrev cJ2_length_9d52b : ByteArray := prog_24_method_6_code
def yJ2_length_9d52b : MethodName := ⟨RJ2, "length", "([B)I"⟩
abbrev cJ2_charAt_3b067 : ByteArray := prog_24_method_83_code
def yJ2_charAt_3b067 : MethodName := ⟨RJ2, "charAt", "([BI)C"⟩
abbrev cJ2_checkIndex_2214a : ByteArray := prog_24_method_91_code
def yJ2_checkIndex_2214a : MethodName := ⟨RJ2, "checkIndex", "(I[B)V"⟩
def RJxfd54e : String := "java/lang/constant/Constable"
def TJxfd54e : u_T := fun k => match k with
  | _ => ("", "", "", false)
def tyJxfd54e : Nat → FieldType := fun k => match k with
  | _ => .int
abbrev wsJxfd54e0 : List Cond := u_ws RJxfd54e TJxfd54e 0
theorem tyJxfd54e_ok : ∀ k, k < 0 → parseFieldDescriptor (TJxfd54e k).2.2.1 = some (tyJxfd54e k) := by decide +kernel
def RJx3cf43 : String := "java/lang/constant/ConstantDesc"
def TJx3cf43 : u_T := fun k => match k with
  | _ => ("", "", "", false)
def tyJx3cf43 : Nat → FieldType := fun k => match k with
  | _ => .int
abbrev wsJx3cf430 : List Cond := u_ws RJx3cf43 TJx3cf43 0
theorem tyJx3cf43_ok : ∀ k, k < 0 → parseFieldDescriptor (TJx3cf43 k).2.2.1 = some (tyJx3cf43 k) := by decide +kernel
def RJ7 : String := "java/util/Arrays"
def TJ7 : u_T := fun k => match k with
  | _ => ("", "", "", false)
def tyJ7 : Nat → FieldType := fun k => match k with
  | _ => .int
abbrev wsJ70 : List Cond := u_ws RJ7 TJ7 0
theorem tyJ7_ok : ∀ k, k < 0 → parseFieldDescriptor (TJ7 k).2.2.1 = some (tyJ7 k) := by decide +kernel
abbrev cJ7_fill_53178 : ByteArray := prog_28_method_103_code
def yJ7_fill_53178 : MethodName := ⟨RJ7, "fill", "([II)V"⟩
def RJ3 : String := "jdk/internal/util/Preconditions"
def TJ3 : u_T := fun k => match k with
  | _ => ("", "", "", false)
def tyJ3 : Nat → FieldType := fun k => match k with
  | _ => .int
abbrev wsJ30 : List Cond := u_ws RJ3 TJ3 0
theorem tyJ3_ok : ∀ k, k < 0 → parseFieldDescriptor (TJ3 k).2.2.1 = some (tyJ3 k) := by decide +kernel
abbrev cJ3_checkIndex_8e157 : ByteArray := prog_30_method_11_code
def yJ3_checkIndex_8e157 : MethodName := ⟨RJ3, "checkIndex", "(IILjava/util/function/BiFunction;)I"⟩
def RL : String := "EclipseCheeseLaw"
abbrev cL_led : ByteArray := method_3_code
def yL_led : MethodName := ⟨RL, "led", "(LEclipseCheese;I[J)I"⟩
abbrev cL_law : ByteArray := code
def yL_law : MethodName := ⟨RL, "law", "([I)Z"⟩
abbrev vwCl : List vw_C := [(RX0, TX0, 15), (RX1, TX1, 4), (RX2, TX2, 4), (RX3, TX3, 5), (RX4, TX4, 2), (RX5, TX5, 12), (RX6, TX6, 4), (RX7, TX7, 17), (RX8, TX8, 12), (RX9, TX9, 6), (RX10, TX10, 18), (RX11, TX11, 33), (RX12, TX12, 36)]
end
section
/-! ===== the store: kinds 0..12 objects (as vwCl), 13 byte[], 14 int[], 15 long[], 16 boolean[], 17 Call[], 18 Event[], 19 Held[], 20 Minutes[], 21 Turner[]; 99 nothing there ===== -/
abbrev cz_G : Type := va_G × (Nat → ClassId) × (Nat → Nat) × (Nat → Nat)
abbrev cz_al (g : cz_G) : Nat → Nat := g.2.2.1
abbrev cz_sa (g : cz_G) : Nat → Nat := g.2.2.2
/-- a value of the store's machine as the machine has it: a place is an address, a float stands for a String constant (or the script) -/
def cz_rn (g : cz_G) : Value → Value
  | .ref k => .ref (cz_al g k)
  | .float u => .ref (cz_sa g u.toNat)
  | .int x => .int x
  | .long x => .long x
  | .null => .null
  | .double x => .double x
  | .retAddr x => .retAddr x
theorem cz_rn_cat (g : cz_G) (v : Value) : (cz_rn g v).category = v.category := by cases v <;> rfl
theorem cz_rn_sum (g : cz_G) (st : List Value) : ((st.map (cz_rn g)).map fun v => v.category).sum = (st.map fun v => v.category).sum := by
  rw [List.map_map]
  congr 1
  apply List.map_congr_left
  intro v _
  exact cz_rn_cat g v
def cz_on : Nat → String
  | 0 => RX0
  | 1 => RX1
  | 2 => RX2
  | 3 => RX3
  | 4 => RX4
  | 5 => RX5
  | 6 => RX6
  | 7 => RX7
  | 8 => RX8
  | 9 => RX9
  | 10 => RX10
  | 11 => RX11
  | 12 => RX12
  | 13 => RL
  | 14 => RJ6
  | 15 => RJ9
  | 16 => RJ7
  | _ => ""
def cz_TT : Nat → u_T
  | 0 => TX0
  | 1 => TX1
  | 2 => TX2
  | 3 => TX3
  | 4 => TX4
  | 5 => TX5
  | 6 => TX6
  | 7 => TX7
  | 8 => TX8
  | 9 => TX9
  | 10 => TX10
  | 11 => TX11
  | 12 => TX12
  | _ => TX0
def cz_tf : Nat → Nat → FieldType
  | 0 => tyX0
  | 1 => tyX1
  | 2 => tyX2
  | 3 => tyX3
  | 4 => tyX4
  | 5 => tyX5
  | 6 => tyX6
  | 7 => tyX7
  | 8 => tyX8
  | 9 => tyX9
  | 10 => tyX10
  | 11 => tyX11
  | 12 => tyX12
  | _ => tyX0
def cz_nf : Nat → Nat
  | 0 => 15
  | 1 => 4
  | 2 => 4
  | 3 => 5
  | 4 => 2
  | 5 => 12
  | 6 => 4
  | 7 => 17
  | 8 => 12
  | 9 => 6
  | 10 => 18
  | 11 => 33
  | 12 => 36
  | _ => 0
/-- the kind of each field: 0 int, 1 reference, 2 long, 3 boolean -/
def cz_fk : Nat → List Nat
  | 0 => [0, 0, 1, 0, 1, 0, 1, 0, 1, 0, 1, 0, 1, 0, 1]
  | 1 => [0, 0, 0, 0]
  | 2 => [0, 0, 0, 0]
  | 3 => [0, 0, 0, 1, 1]
  | 4 => [0, 1]
  | 5 => [1, 1, 0, 1, 1, 1, 1, 1, 1, 1, 1, 1]
  | 6 => [0, 1, 0, 1]
  | 7 => [1, 0, 0, 0, 0, 2, 0, 0, 0, 0, 1, 3, 3, 1, 1, 0, 0]
  | 8 => [0, 0, 1, 1, 1, 1, 1, 1, 1, 1, 0, 1]
  | 9 => [0, 0, 0, 0, 0, 0]
  | 10 => [1, 0, 1, 1, 1, 3, 1, 1, 1, 3, 1, 3, 1, 1, 1, 0, 0, 0]
  | 11 => [0, 0, 0, 0, 0, 0, 0, 0, 0, 3, 1, 1, 1, 1, 1, 1, 1, 1, 1, 1, 1, 1, 1, 1, 1, 1, 1, 1, 1, 1, 1, 1, 1]
  | 12 => [0, 0, 0, 1, 1, 1, 0, 0, 0, 0, 0, 0, 0, 0, 0, 2, 1, 1, 1, 0, 0, 1, 1, 1, 1, 1, 1, 1, 1, 1, 1, 1, 1, 1, 0, 1]
  | _ => []
def cz_ty : Nat → FieldType
  | 13 => .byte
  | 14 => .int
  | 15 => .long
  | 16 => .boolean
  | 17 => .object RX1
  | 18 => .object RX2
  | 19 => .object RX3
  | 20 => .object RX4
  | _ => .object RX9
/-- the class of what an array of references holds -/
def cz_el : Nat → Nat
  | 17 => 1
  | 18 => 2
  | 19 => 3
  | 20 => 4
  | _ => 9
def cz_tys (g : cz_G) : List (ClassId × FieldType) := (List.range 9).map (fun i => (g.2.1 (13 + i), cz_ty (13 + i)))
abbrev cz_I : Type := Nat → Nat → Int32
abbrev cz_R : Type := Nat → Nat → Option Nat
abbrev cz_L : Type := Nat → Nat → Int64
def cz_uI (I : cz_I) (k j : Nat) (x : Int32) : cz_I := fun a => if a = k then upd (I k) j x else I a
def cz_uR (R : cz_R) (k j : Nat) (x : Option Nat) : cz_R := fun a => if a = k then va_up (R k) j x else R a
def cz_uL (L : cz_L) (k j : Nat) (x : Int64) : cz_L := fun a => if a = k then vp_updL (L k) j x else L a
def cz_fv (g : cz_G) (I : cz_I) (R : cz_R) (L : cz_L) (k j kd : Nat) : Value := if kd = 1 then va_rf ((R k j).map (cz_al g)) else if kd = 2 then .long (L k j) else .int (I k j)
def cz_fs (g : cz_G) (I : cz_I) (R : cz_R) (L : cz_L) (k ci : Nat) : List Value := (cz_fk ci).mapIdx (fun j kd => cz_fv g I R L k j kd)
def cz_ac (g : cz_G) (I : cz_I) (R : cz_R) (L : cz_L) (k kd : Nat) : (Nat → Int32) ⊕ (Nat → Int64) ⊕ (Nat → UInt32) ⊕ (Nat → UInt64) ⊕ (Nat → Option Nat) :=
  if kd = 15 then .inr (.inl (L k)) else if kd < 17 then .inl (I k) else .inr (.inr (.inr (.inr (fun j => (R k j).map (cz_al g)))))
def cz_ce (g : cz_G) (K N : Nat → Nat) (I : cz_I) (R : cz_R) (L : cz_L) (k : Nat) : va_E := if K k < 13 then .inr (K k, cz_fs g I R L k (K k)) else .inl (g.2.1 (K k), N k, cz_ac g I R L k (K k))
def cz_ws (g : cz_G) (c : Nat) (K N : Nat → Nat) (I : cz_I) (R : cz_R) (L : cz_L) : va_W := (List.range c).map (fun k => (cz_al g k, cz_ce g K N I R L k))
/-- the store's picture of the heap; the places that come get the addresses that come -/
def cz_At (g : cz_G) (A : Nat → Prop) (c : Nat) (K N : Nat → Nat) (I : cz_I) (R : cz_R) (L : cz_L) (H : Heap) : Prop :=
  va_P g.1 vwCl (cz_ws g c K N I R L) H ∧ va_D A (cz_ws g c K N I R L) ∧ (∀ i : Nat, cz_al g (c + i) = H.size + i) ∧ ∀ k : Nat, c ≤ k → K k = 99
theorem cz_lt {c : Nat} {K : Nat → Nat} {k kd : Nat} (h99 : ∀ k : Nat, c ≤ k → K k = 99) (hk : K k = kd) (hn : kd ≠ 99) : k < c := by
  rcases Nat.lt_or_ge k c with h | h
  · exact h
  · exact absurd (hk.symm.trans (h99 k h)) hn
theorem cz_get {g : cz_G} {c : Nat} {K N : Nat → Nat} {I : cz_I} {R : cz_R} {L : cz_L} {k : Nat} (hk : k < c) : (cz_ws g c K N I R L)[k]? = some (cz_al g k, cz_ce g K N I R L k) := by
  rw [cz_ws, List.getElem?_map, List.getElem?_range hk]; rfl
theorem cz_len {g : cz_G} {c : Nat} {K N : Nat → Nat} {I : cz_I} {R : cz_R} {L : cz_L} : (cz_ws g c K N I R L).length = c := by simp [cz_ws]
theorem cz_getO {g : cz_G} {c : Nat} {K N : Nat → Nat} {I : cz_I} {R : cz_R} {L : cz_L} {k ci : Nat} (h99 : ∀ k : Nat, c ≤ k → K k = 99) (hK : K k = ci) (hc : ci < 13) : (cz_ws g c K N I R L)[k]? = some (cz_al g k, .inr (ci, cz_fs g I R L k ci)) := by
  rw [cz_get (cz_lt h99 hK (by omega)), cz_ce, hK, if_pos hc]
theorem cz_getA {g : cz_G} {c : Nat} {K N : Nat → Nat} {I : cz_I} {R : cz_R} {L : cz_L} {k kd : Nat} (h99 : ∀ k : Nat, c ≤ k → K k = 99) (hK : K k = kd) (h1 : 13 ≤ kd) (h2 : kd < 22) : (cz_ws g c K N I R L)[k]? = some (cz_al g k, .inl (g.2.1 kd, N k, cz_ac g I R L k kd)) := by
  rw [cz_get (cz_lt h99 hK (by omega)), cz_ce, hK, if_neg (by omega)]
theorem cz_tyat (g : cz_G) {kd : Nat} (h1 : 13 ≤ kd) (h2 : kd < 22) : (cz_tys g)[kd - 13]? = some (g.2.1 kd, cz_ty kd) := by
  rw [cz_tys, List.getElem?_map, List.getElem?_range (by omega), Option.map_some, show 13 + (kd - 13) = kd by omega]
/-- one cell changes -/
theorem cz_set {g : cz_G} {c : Nat} {K N : Nat → Nat} {I I' : cz_I} {R R' : cz_R} {L L' : cz_L} {k : Nat} {e : va_E} (hk : k < c) (he : cz_ce g K N I' R' L' k = e) (ho : ∀ j : Nat, j ≠ k → cz_ce g K N I' R' L' j = cz_ce g K N I R L j) : (cz_ws g c K N I R L).set k (cz_al g k, e) = cz_ws g c K N I' R' L' := by
  apply List.ext_getElem?
  intro i
  rw [List.getElem?_set, cz_len]
  by_cases hi : k = i
  · subst hi
    rw [if_pos rfl, if_pos hk, cz_get hk, he]
  · rw [if_neg hi]
    by_cases hc : i < c
    · rw [cz_get hc, cz_get hc, ho i (Ne.symm hi)]
    · rw [List.getElem?_eq_none (by rw [cz_len]; omega), List.getElem?_eq_none (by rw [cz_len]; omega)]
theorem cz_uIn {I : cz_I} {k j a : Nat} {x : Int32} (h : a ≠ k) : cz_uI I k j x a = I a := by simp [cz_uI, h]
theorem cz_uRn {R : cz_R} {k j a : Nat} {x : Option Nat} (h : a ≠ k) : cz_uR R k j x a = R a := by simp [cz_uR, h]
theorem cz_uLn {L : cz_L} {k j a : Nat} {x : Int64} (h : a ≠ k) : cz_uL L k j x a = L a := by simp [cz_uL, h]
theorem cz_uIs {I : cz_I} {k j : Nat} {x : Int32} : cz_uI I k j x k = upd (I k) j x := by simp [cz_uI]
theorem cz_uRs {R : cz_R} {k j : Nat} {x : Option Nat} : cz_uR R k j x k = va_up (R k) j x := by simp [cz_uR]
theorem cz_uLs {L : cz_L} {k j : Nat} {x : Int64} : cz_uL L k j x k = vp_updL (L k) j x := by simp [cz_uL]
/-- other cells stay -/
theorem cz_ceI {g : cz_G} {K N : Nat → Nat} {I I' : cz_I} {R R' : cz_R} {L L' : cz_L} {k : Nat} (h1 : I' k = I k) (h2 : R' k = R k) (h3 : L' k = L k) : cz_ce g K N I' R' L' k = cz_ce g K N I R L k := by
  simp only [cz_ce, cz_fs, cz_fv, cz_ac, h1, h2, h3]
theorem cz_fsI {g : cz_G} {I : cz_I} {R : cz_R} {L : cz_L} {k ci j kd : Nat} {x : Int32} (hk : (cz_fk ci)[j]? = some kd) (h1 : kd ≠ 1) (h2 : kd ≠ 2) : (cz_fs g I R L k ci).set j (.int x) = cz_fs g (cz_uI I k j x) R L k ci := by
  apply List.ext_getElem?
  intro i
  have hj : j < (cz_fk ci).length := (List.getElem?_eq_some_iff.mp hk).1
  rw [List.getElem?_set]
  simp only [cz_fs, List.length_mapIdx, List.getElem?_mapIdx]
  by_cases hi : j = i
  · subst hi
    rw [if_pos rfl, if_pos hj, hk, Option.map_some, cz_fv, if_neg h1, if_neg h2, cz_uIs]
    simp [upd]
  · rw [if_neg hi]
    congr 1
    funext q
    simp only [cz_fv, cz_uIs, upd, if_neg (Ne.symm hi)]
theorem cz_fsR {g : cz_G} {I : cz_I} {R : cz_R} {L : cz_L} {k ci j : Nat} {x : Option Nat} (hk : (cz_fk ci)[j]? = some 1) : (cz_fs g I R L k ci).set j (va_rf (x.map (cz_al g))) = cz_fs g I (cz_uR R k j x) L k ci := by
  apply List.ext_getElem?
  intro i
  have hj : j < (cz_fk ci).length := (List.getElem?_eq_some_iff.mp hk).1
  rw [List.getElem?_set]
  simp only [cz_fs, List.length_mapIdx, List.getElem?_mapIdx]
  by_cases hi : j = i
  · subst hi
    rw [if_pos rfl, if_pos hj, hk, Option.map_some, cz_fv, if_pos rfl, cz_uRs]
    simp [va_up]
  · rw [if_neg hi]
    congr 1
    funext q
    simp only [cz_fv, cz_uRs, va_up, if_neg (Ne.symm hi)]
theorem cz_fsL {g : cz_G} {I : cz_I} {R : cz_R} {L : cz_L} {k ci j : Nat} {x : Int64} (hk : (cz_fk ci)[j]? = some 2) : (cz_fs g I R L k ci).set j (.long x) = cz_fs g I R (cz_uL L k j x) k ci := by
  apply List.ext_getElem?
  intro i
  have hj : j < (cz_fk ci).length := (List.getElem?_eq_some_iff.mp hk).1
  rw [List.getElem?_set]
  simp only [cz_fs, List.length_mapIdx, List.getElem?_mapIdx]
  by_cases hi : j = i
  · subst hi
    rw [if_pos rfl, if_pos hj, hk, Option.map_some, cz_fv, if_neg (by decide), if_pos rfl, cz_uLs]
    simp [vp_updL]
  · rw [if_neg hi]
    congr 1
    funext q
    simp only [cz_fv, cz_uLs, vp_updL, if_neg (Ne.symm hi)]
/-- a new cell -/
theorem cz_push {g : cz_G} {c : Nat} {K N K' N' : Nat → Nat} {I I' : cz_I} {R R' : cz_R} {L L' : cz_L} {e : va_E} (he : cz_ce g K' N' I' R' L' c = e) (ho : ∀ j : Nat, j < c → cz_ce g K' N' I' R' L' j = cz_ce g K N I R L j) : cz_ws g c K N I R L ++ [(cz_al g c, e)] = cz_ws g (c + 1) K' N' I' R' L' := by
  rw [cz_ws, cz_ws, List.range_succ, List.map_append, List.map_cons, List.map_nil, he]
  congr 1
  apply List.map_congr_left
  intro j hj
  rw [ho j (List.mem_range.mp hj)]
/-! ===== words, context, judgement ===== -/
def cz_T : List Cond := lw_tbl.filter goodWord
/-- a method: its class's number, bytes, locals, room, name, result, the places of its longs -/
abbrev cz_M : Type := Nat × ByteArray × Nat × Room × MethodName × Option FieldType × List Nat
abbrev cz_cc (M : cz_M) : ByteArray := M.2.1
abbrev cz_nL (M : cz_M) : Nat := M.2.2.1
abbrev cz_rm (M : cz_M) : Room := M.2.2.2.1
abbrev cz_nm (M : cz_M) : MethodName := M.2.2.2.2.1
abbrev cz_rt (M : cz_M) : Option FieldType := M.2.2.2.2.2.1
abbrev cz_lg (M : cz_M) : List Nat := M.2.2.2.2.2.2
abbrev cz_wd (M : cz_M) : List Cond := .code (cz_nm M) (cz_cc M) (cz_nL M) (cz_rt M) :: cz_T
def cz_NF : List (String × Nat × String × String × String × String) := [("EclipseCheeseModel", 192, "EclipseCheeseModel$Alp", "minutes", "I", "EclipseCheeseModel"), ("EclipseCheeseModel", 263, "EclipseCheeseModel$Alp", "huts", "I", "EclipseCheeseModel"), ("EclipseCheeseModel", 265, "EclipseCheeseModel$Alp", "events", "I", "EclipseCheeseModel"), ("EclipseCheeseModel", 224, "EclipseCheeseModel$Alp", "cheeses", "I", "EclipseCheeseModel"), ("EclipseCheeseModel", 315, "EclipseCheeseModel$Alp", "turners", "I", "EclipseCheeseModel"), ("EclipseCheeseModel", 349, "EclipseCheeseModel$Alp", "calls", "I", "EclipseCheeseModel"), ("EclipseCheeseModel", 370, "EclipseCheeseModel$Alp", "slices", "I", "EclipseCheeseModel"), ("EclipseCheeseModel", 209, "EclipseCheeseModel$Alp", "names", "I", "EclipseCheeseModel"), ("EclipseCheeseModel", 312, "EclipseCheeseModel$Alp", "almanacMany", "I", "EclipseCheeseModel"), ("EclipseCheeseModel", 302, "EclipseCheeseModel$Alp", "hasAlmanac", "Z", "EclipseCheeseModel"), ("EclipseCheeseModel", 260, "EclipseCheeseModel$Alp", "price", "[I", "EclipseCheeseModel"), ("EclipseCheeseModel", 274, "EclipseCheeseModel$Alp", "kind", "[I", "EclipseCheeseModel"), ("EclipseCheeseModel", 277, "EclipseCheeseModel$Alp", "hut", "[I", "EclipseCheeseModel"), ("EclipseCheeseModel", 280, "EclipseCheeseModel$Alp", "from", "[I", "EclipseCheeseModel"), ("EclipseCheeseModel", 283, "EclipseCheeseModel$Alp", "to", "[I", "EclipseCheeseModel"), ("EclipseCheeseModel", 296, "EclipseCheeseModel$Alp", "cheeseHut", "[I", "EclipseCheeseModel"), ("EclipseCheeseModel", 306, "EclipseCheeseModel$Alp", "almanac", "[I", "EclipseCheeseModel"), ("EclipseCheeseModel", 375, "EclipseCheeseModel$Alp", "sliceMany", "[I", "EclipseCheeseModel"), ("EclipseCheeseModel", 373, "EclipseCheeseModel$Alp", "slice", "[I", "EclipseCheeseModel"), ("EclipseCheeseModel", 299, "EclipseCheeseModel$Alp", "isDown", "[Z", "EclipseCheeseModel"), ("EclipseCheeseModel", 333, "EclipseCheeseModel$Alp", "turnerKind", "[I", "EclipseCheeseModel"), ("EclipseCheeseModel", 336, "EclipseCheeseModel$Alp", "turnerFrom", "[I", "EclipseCheeseModel"), ("EclipseCheeseModel", 339, "EclipseCheeseModel$Alp", "turnerTo", "[I", "EclipseCheeseModel"), ("EclipseCheeseModel", 342, "EclipseCheeseModel$Alp", "hands", "[I", "EclipseCheeseModel"), ("EclipseCheeseModel", 344, "EclipseCheeseModel$Alp", "takes", "[I", "EclipseCheeseModel"), ("EclipseCheeseModel", 346, "EclipseCheeseModel$Alp", "turnerHuts", "[I", "EclipseCheeseModel"), ("EclipseCheeseModel", 358, "EclipseCheeseModel$Alp", "callTurner", "[I", "EclipseCheeseModel"), ("EclipseCheeseModel", 361, "EclipseCheeseModel$Alp", "callAt", "[I", "EclipseCheeseModel"), ("EclipseCheeseModel", 364, "EclipseCheeseModel$Alp", "callFor", "[I", "EclipseCheeseModel"), ("EclipseCheeseModel", 367, "EclipseCheeseModel$Alp", "callCosts", "[I", "EclipseCheeseModel"), ("EclipseCheeseModel", 205, "EclipseCheeseModel$Alp", "name", "[J", "EclipseCheeseModel"), ("EclipseCheeseModel", 212, "EclipseCheeseModel$Alp", "nameSort", "[I", "EclipseCheeseModel"), ("EclipseCheeseModel", 215, "EclipseCheeseModel$Alp", "nameNumber", "[I", "EclipseCheeseModel")]
def cz_NM : List (String × Nat × MethodName × String) := [("EclipseCheese$Alp", 26, ⟨"EclipseCheese$Minutes", "<init>", "()V"⟩, "EclipseCheese"), ("EclipseCheese$Alp", 47, ⟨"EclipseCheese$Event", "<init>", "()V"⟩, "EclipseCheese"), ("EclipseCheese$Alp", 48, ⟨"EclipseCheese$Turner", "<init>", "()V"⟩, "EclipseCheese"), ("EclipseCheese$Alp", 49, ⟨"EclipseCheese$Call", "<init>", "()V"⟩, "EclipseCheese"), ("EclipseCheese", 34, ⟨"EclipseCheese$Held", "<init>", "()V"⟩, "EclipseCheese"), ("EclipseCheese$Past", 20, ⟨"EclipseCheese$Held", "<init>", "()V"⟩, "EclipseCheese"), ("EclipseCheese", 48, ⟨"EclipseCheese$Sky", "<init>", "()V"⟩, "EclipseCheese"), ("EclipseCheese$Reader", 275, ⟨"EclipseCheese", "bit", "(II)I"⟩, "EclipseCheese"), ("EclipseCheese$Alp", 78, ⟨"EclipseCheese", "bit", "(II)I"⟩, "EclipseCheese"), ("EclipseCheese$Night", 84, ⟨"EclipseCheese", "bit", "(II)I"⟩, "EclipseCheese"), ("EclipseCheeseModel", 381, ⟨"EclipseCheeseModel$Alp", "<init>", "()V"⟩, "EclipseCheeseModel")]
def cz_AO : List String := ["EclipseCheese$Event", "EclipseCheese$Turner", "EclipseCheese$Call", "EclipseCheese$Minutes", "EclipseCheese$Held"]
/-- String constants: class, entry, text, number of the text -/
def cz_SR : List (String × Nat × String × Nat) := [("EclipseCheese$Reader", 131, "cloud", 7), ("EclipseCheese$Reader", 133, "eclipse", 11), ("EclipseCheese$Reader", 135, "lamp", 17), ("EclipseCheese$Reader", 137, "shutter", 22), ("EclipseCheese$Reader", 139, "bolt", 4), ("EclipseCheese$Reader", 141, "cheese", 6), ("EclipseCheese$Reader", 143, "almanac", 0), ("EclipseCheese$Reader", 145, "turner", 26), ("EclipseCheese$Reader", 147, "call", 5), ("EclipseCheese$Reader", 149, "slice", 23), ("EclipseCheese$Reader", 151, "alp", 1), ("EclipseCheese$Reader", 203, "minutes", 18), ("EclipseCheese$Reader", 204, "huts", 16), ("EclipseCheese$Reader", 205, "prices", 20), ("EclipseCheese$Reader", 238, "down", 10), ("EclipseCheese$Reader", 234, "hut", 15), ("EclipseCheese$Reader", 268, "sees", 21), ("EclipseCheese$Reader", 270, "blind", 3), ("EclipseCheese$Reader", 272, "deaf", 9), ("EclipseCheese$Reader", 253, "from", 13), ("EclipseCheese$Reader", 124, "to", 25), ("EclipseCheese$Reader", 256, "hands", 14), ("EclipseCheese$Reader", 260, "takes", 24), ("EclipseCheese$Reader", 293, "at", 2), ("EclipseCheese$Reader", 297, "for", 12), ("EclipseCheese$Reader", 302, "costs", 8), ("EclipseCheese", 327, "no such cheese missed anything", 19), ("EclipseCheeseModel", 164, "alp", 1), ("EclipseCheeseModel", 248, "minutes", 18), ("EclipseCheeseModel", 253, "huts", 16), ("EclipseCheeseModel", 255, "prices", 20), ("EclipseCheeseModel", 166, "cloud", 7), ("EclipseCheeseModel", 272, "to", 25), ("EclipseCheeseModel", 168, "eclipse", 11), ("EclipseCheeseModel", 170, "lamp", 17), ("EclipseCheeseModel", 172, "shutter", 22), ("EclipseCheeseModel", 174, "bolt", 4), ("EclipseCheeseModel", 176, "cheese", 6), ("EclipseCheeseModel", 178, "almanac", 0), ("EclipseCheeseModel", 180, "turner", 26), ("EclipseCheeseModel", 182, "call", 5), ("EclipseCheeseModel", 184, "slice", 23), ("EclipseCheeseModel", 186, "down", 10), ("EclipseCheeseModel", 289, "hut", 15), ("EclipseCheeseModel", 318, "sees", 21), ("EclipseCheeseModel", 320, "blind", 3), ("EclipseCheeseModel", 322, "deaf", 9), ("EclipseCheeseModel", 324, "from", 13), ("EclipseCheeseModel", 325, "hands", 14), ("EclipseCheeseModel", 327, "takes", 24), ("EclipseCheeseModel", 352, "at", 2), ("EclipseCheeseModel", 354, "for", 12), ("EclipseCheeseModel", 356, "costs", 8)]
def cz_K (g : cz_G) (U : State) : Prop := va_K g.1 vwCl (cz_tys g) U ∧ (∀ q ∈ cz_NF, va_Nw (.fieldLinkNest q.1 q.2.1 q.2.2.1 q.2.2.2.1 q.2.2.2.2.1 q.2.2.2.2.2) U) ∧ (∀ q ∈ cz_NM, va_Nw (.methodLinkNest q.1 q.2.1 q.2.2.1 q.2.2.2) U) ∧ (∀ C ∈ cz_AO, va_AO C U) ∧ ∀ q ∈ cz_SR, vk_R q.1 q.2.1 q.2.2.1 (cz_sa g q.2.2.2) U
theorem cz_K.warm {g : cz_G} {s U : State} (hW : s.WarmedH U.vm) (h : cz_K g s) : cz_K g U :=
  ⟨va_K.moved hW.alike h.1, fun q hq => va_Nw.warmF hW (h.2.1 q hq), fun q hq => va_Nw.warmM hW (h.2.2.1 q hq), fun C hC => va_AO.moved hW.alike (h.2.2.2.1 C hC), fun q hq => vk_R.warm hW (h.2.2.2.2 q hq)⟩
theorem cz_K.same {g : cz_G} {s U : State} (hv : U.vm = s.vm) (h : cz_K g s) : cz_K g U :=
  ⟨va_K.moved (by rw [hv]; exact Vm.Alike.refl s.vm) h.1, fun q hq => va_tabs rfl hv.symm (h.2.1 q hq), fun q hq => va_tabs rfl hv.symm (h.2.2.1 q hq), fun C hC => va_AO.moved (by rw [hv]; exact Vm.Alike.refl s.vm) (h.2.2.2.1 C hC), fun q hq => vk_R.same hv (h.2.2.2.2 q hq)⟩
abbrev cz_X : Type := Program × Launch × Env × State × MethodId × Array Value × List Frame × Method × Code × (Nat → Prop) × (State → Prop) × cz_G
/-- what holds all through a body -/
def cz_ok : cz_X → cz_M → Prop
  | (p, _, _, s, m, args, _, meth, c, A, _, g), M => p.tables.exec = Jvm.exec ∧ c.code = cz_cc M ∧ c.maxLocals = cz_nL M ∧ s.vm.findClass (cz_on M.1) = some m.cls ∧ (∀ w ∈ cz_T, w.before args s = true) ∧ meth.sig.returnType = cz_rt M ∧ meth.locks = false ∧ ((cz_nm M).name = "<init>" → meth.name = "<init>") ∧ cz_K g s ∧ ∀ q : Nat, s.heap.size ≤ q → A q
/-- the locals: unknown where none -/
def cz_lc (g : cz_G) (M : cz_M) (arr : Array Slot) (ls : Nat → Option Value) : Prop := arr.size = cz_nL M ∧ lv_wf arr ∧ (∀ (i : Nat) (v : Value), ls i = some v → arr[i]? = some (.val (cz_rn g v))) ∧ ∀ (i : Nat) (v : Value), ls i = some v → v.category = 2 → i ∈ cz_lg M
/-- THE JUDGEMENT: from here the machine comes to a state with the context's end -/
def Tr : cz_X → cz_M → Nat → (Nat → Option Value) → List Value → Nat → (Nat → Nat) → (Nat → Nat) → cz_I → cz_R → cz_L → Nat → Nat → Prop
  | (p, l, e, s, m, args, below, meth, c, A, Z, g), M, pc, ls, st, cn, K, N, I, R, L, n, w =>
    cz_ok (p, l, e, s, m, args, below, meth, c, A, Z, g) M → ∀ (H : Heap) (locs : List Loc) (arr : Array Slot), cz_At g A cn K N I R L H → va_S A s.heap H locs → cz_lc g M arr ls →
      W p l e (cz_rm M) s m args below meth c H locs n w Z (F0 m pc arr (st.map (cz_rn g)))
section CzRules
variable {X : cz_X} {M : cz_M} {pc : Nat} {ls : Nat → Option Value} {st : List Value} {cn : Nat} {K N : Nat → Nat} {I : cz_I} {R : cz_R} {L : cz_L} {n w : Nat}
theorem tr_iadd {x y : Int32} (hd : decode (cz_cc M) pc = .ok (.iadd, 1)) (k : Tr X M (pc + 1) ls (.int (x + y) :: st) cn K N I R L n w) : Tr X M pc ls (.int y :: .int x :: st) cn K N I R L n w := by
  obtain ⟨p, l, e, s, m, args, below, meth, c, A, Z, g⟩ := X
  intro hC H locs arr hR hS hl
  exact lv_iadd hC.1 hC.2.1 hd (k hC H locs arr hR hS hl)
theorem tr_isub {x y : Int32} (hd : decode (cz_cc M) pc = .ok (.isub, 1)) (k : Tr X M (pc + 1) ls (.int (x - y) :: st) cn K N I R L n w) : Tr X M pc ls (.int y :: .int x :: st) cn K N I R L n w := by
  obtain ⟨p, l, e, s, m, args, below, meth, c, A, Z, g⟩ := X
  intro hC H locs arr hR hS hl
  exact lv_isub hC.1 hC.2.1 hd (k hC H locs arr hR hS hl)
theorem tr_imul {x y : Int32} (hd : decode (cz_cc M) pc = .ok (.imul, 1)) (k : Tr X M (pc + 1) ls (.int (x * y) :: st) cn K N I R L n w) : Tr X M pc ls (.int y :: .int x :: st) cn K N I R L n w := by
  obtain ⟨p, l, e, s, m, args, below, meth, c, A, Z, g⟩ := X
  intro hC H locs arr hR hS hl
  exact lv_imul hC.1 hC.2.1 hd (k hC H locs arr hR hS hl)
theorem tr_iand {x y : Int32} (hd : decode (cz_cc M) pc = .ok (.iand, 1)) (k : Tr X M (pc + 1) ls (.int (x &&& y) :: st) cn K N I R L n w) : Tr X M pc ls (.int y :: .int x :: st) cn K N I R L n w := by
  obtain ⟨p, l, e, s, m, args, below, meth, c, A, Z, g⟩ := X
  intro hC H locs arr hR hS hl
  exact lv_iand hC.1 hC.2.1 hd (k hC H locs arr hR hS hl)
theorem tr_ior {x y : Int32} (hd : decode (cz_cc M) pc = .ok (.ior, 1)) (k : Tr X M (pc + 1) ls (.int (x ||| y) :: st) cn K N I R L n w) : Tr X M pc ls (.int y :: .int x :: st) cn K N I R L n w := by
  obtain ⟨p, l, e, s, m, args, below, meth, c, A, Z, g⟩ := X
  intro hC H locs arr hR hS hl
  exact lv_ior hC.1 hC.2.1 hd (k hC H locs arr hR hS hl)
theorem tr_ixor {x y : Int32} (hd : decode (cz_cc M) pc = .ok (.ixor, 1)) (k : Tr X M (pc + 1) ls (.int (x ^^^ y) :: st) cn K N I R L n w) : Tr X M pc ls (.int y :: .int x :: st) cn K N I R L n w := by
  obtain ⟨p, l, e, s, m, args, below, meth, c, A, Z, g⟩ := X
  intro hC H locs arr hR hS hl
  exact lv_ixor hC.1 hC.2.1 hd (k hC H locs arr hR hS hl)
theorem tr_ishl {x y : Int32} (hd : decode (cz_cc M) pc = .ok (.ishl, 1)) (k : Tr X M (pc + 1) ls (.int (x <<< (y &&& 31)) :: st) cn K N I R L n w) : Tr X M pc ls (.int y :: .int x :: st) cn K N I R L n w := by
  obtain ⟨p, l, e, s, m, args, below, meth, c, A, Z, g⟩ := X
  intro hC H locs arr hR hS hl
  exact lv_ishl hC.1 hC.2.1 hd (k hC H locs arr hR hS hl)
theorem tr_ishr {x y : Int32} (hd : decode (cz_cc M) pc = .ok (.ishr, 1)) (k : Tr X M (pc + 1) ls (.int (x >>> (y &&& 31)) :: st) cn K N I R L n w) : Tr X M pc ls (.int y :: .int x :: st) cn K N I R L n w := by
  obtain ⟨p, l, e, s, m, args, below, meth, c, A, Z, g⟩ := X
  intro hC H locs arr hR hS hl
  exact lv_ishr hC.1 hC.2.1 hd (k hC H locs arr hR hS hl)
theorem tr_iushr {x y : Int32} (hd : decode (cz_cc M) pc = .ok (.iushr, 1)) (k : Tr X M (pc + 1) ls (.int ((x.toUInt32 >>> (y.toUInt32 &&& Int32.toUInt32 31)).toInt32) :: st) cn K N I R L n w) : Tr X M pc ls (.int y :: .int x :: st) cn K N I R L n w := by
  obtain ⟨p, l, e, s, m, args, below, meth, c, A, Z, g⟩ := X
  intro hC H locs arr hR hS hl
  exact lv_iushr hC.1 hC.2.1 hd rfl (k hC H locs arr hR hS hl)
theorem tr_irem {x y : Int32} (hd : decode (cz_cc M) pc = .ok (.irem, 1)) (h0 : ¬ y = 0) (k : Tr X M (pc + 1) ls (.int (x - x / y * y) :: st) cn K N I R L n w) : Tr X M pc ls (.int y :: .int x :: st) cn K N I R L n w := by
  obtain ⟨p, l, e, s, m, args, below, meth, c, A, Z, g⟩ := X
  intro hC H locs arr hR hS hl
  exact lv_irem hC.1 hC.2.1 hd h0 (k hC H locs arr hR hS hl)
theorem tr_ineg {x : Int32} (hd : decode (cz_cc M) pc = .ok (.ineg, 1)) (k : Tr X M (pc + 1) ls (.int (-x) :: st) cn K N I R L n w) : Tr X M pc ls (.int x :: st) cn K N I R L n w := by
  obtain ⟨p, l, e, s, m, args, below, meth, c, A, Z, g⟩ := X
  intro hC H locs arr hR hS hl
  exact lv_ineg hC.1 hC.2.1 hd (k hC H locs arr hR hS hl)
theorem tr_ladd {x y : Int64} (hd : decode (cz_cc M) pc = .ok (.ladd, 1)) (k : Tr X M (pc + 1) ls (.long (x + y) :: st) cn K N I R L n w) : Tr X M pc ls (.long y :: .long x :: st) cn K N I R L n w := by
  obtain ⟨p, l, e, s, m, args, below, meth, c, A, Z, g⟩ := X
  intro hC H locs arr hR hS hl
  exact lv_ladd hC.1 hC.2.1 hd (k hC H locs arr hR hS hl)
theorem tr_lsub {x y : Int64} (hd : decode (cz_cc M) pc = .ok (.lsub, 1)) (k : Tr X M (pc + 1) ls (.long (x - y) :: st) cn K N I R L n w) : Tr X M pc ls (.long y :: .long x :: st) cn K N I R L n w := by
  obtain ⟨p, l, e, s, m, args, below, meth, c, A, Z, g⟩ := X
  intro hC H locs arr hR hS hl
  exact lv_lsub hC.1 hC.2.1 hd (k hC H locs arr hR hS hl)
theorem tr_lmul {x y : Int64} (hd : decode (cz_cc M) pc = .ok (.lmul, 1)) (k : Tr X M (pc + 1) ls (.long (x * y) :: st) cn K N I R L n w) : Tr X M pc ls (.long y :: .long x :: st) cn K N I R L n w := by
  obtain ⟨p, l, e, s, m, args, below, meth, c, A, Z, g⟩ := X
  intro hC H locs arr hR hS hl
  exact lv_lmul hC.1 hC.2.1 hd (k hC H locs arr hR hS hl)
theorem tr_lrem {x y : Int64} (hd : decode (cz_cc M) pc = .ok (.lrem, 1)) (h0 : ¬ y = 0) (k : Tr X M (pc + 1) ls (.long (x - x / y * y) :: st) cn K N I R L n w) : Tr X M pc ls (.long y :: .long x :: st) cn K N I R L n w := by
  obtain ⟨p, l, e, s, m, args, below, meth, c, A, Z, g⟩ := X
  intro hC H locs arr hR hS hl
  exact lv_lrem hC.1 hC.2.1 hd h0 (k hC H locs arr hR hS hl)
theorem tr_lcmp {x y : Int64} (hd : decode (cz_cc M) pc = .ok (.lcmp, 1)) (k : Tr X M (pc + 1) ls (.int (lg_cmp x y) :: st) cn K N I R L n w) : Tr X M pc ls (.long y :: .long x :: st) cn K N I R L n w := by
  obtain ⟨p, l, e, s, m, args, below, meth, c, A, Z, g⟩ := X
  intro hC H locs arr hR hS hl
  exact W.lcmp hC.1 hC.2.1 hd (k hC H locs arr hR hS hl)
theorem tr_i2l {x : Int32} (hd : decode (cz_cc M) pc = .ok (.i2l, 1)) (k : Tr X M (pc + 1) ls (.long x.toInt64 :: st) cn K N I R L n w) : Tr X M pc ls (.int x :: st) cn K N I R L n w := by
  obtain ⟨p, l, e, s, m, args, below, meth, c, A, Z, g⟩ := X
  intro hC H locs arr hR hS hl
  exact lv_i2l hC.1 hC.2.1 hd rfl (k hC H locs arr hR hS hl)
theorem tr_l2i {x : Int64} (hd : decode (cz_cc M) pc = .ok (.l2i, 1)) (k : Tr X M (pc + 1) ls (.int x.toInt32 :: st) cn K N I R L n w) : Tr X M pc ls (.long x :: st) cn K N I R L n w := by
  obtain ⟨p, l, e, s, m, args, below, meth, c, A, Z, g⟩ := X
  intro hC H locs arr hR hS hl
  exact lv_l2i hC.1 hC.2.1 hd rfl (k hC H locs arr hR hS hl)
theorem tr_i2b {x : Int32} (hd : decode (cz_cc M) pc = .ok (.i2b, 1)) (k : Tr X M (pc + 1) ls (.int x.toInt8.toInt32 :: st) cn K N I R L n w) : Tr X M pc ls (.int x :: st) cn K N I R L n w := by
  obtain ⟨p, l, e, s, m, args, below, meth, c, A, Z, g⟩ := X
  intro hC H locs arr hR hS hl
  exact lv_i2b hC.1 hC.2.1 hd rfl (k hC H locs arr hR hS hl)
theorem tr_i2c {x : Int32} (hd : decode (cz_cc M) pc = .ok (.i2c, 1)) (k : Tr X M (pc + 1) ls (.int (x.toUInt32 % 65536).toInt32 :: st) cn K N I R L n w) : Tr X M pc ls (.int x :: st) cn K N I R L n w := by
  obtain ⟨p, l, e, s, m, args, below, meth, c, A, Z, g⟩ := X
  intro hC H locs arr hR hS hl
  exact lv_i2c hC.1 hC.2.1 hd rfl (k hC H locs arr hR hS hl)
theorem tr_iconst {z : Int} {v : Int32} (hd : decode (cz_cc M) pc = .ok (.iconst z, 1)) (hv : Int32.ofInt z = v) (k : Tr X M (pc + 1) ls (.int v :: st) cn K N I R L n w) : Tr X M pc ls (st) cn K N I R L n w := by
  obtain ⟨p, l, e, s, m, args, below, meth, c, A, Z, g⟩ := X
  intro hC H locs arr hR hS hl
  exact lv_iconst hC.1 hC.2.1 hd hv (k hC H locs arr hR hS hl)
theorem tr_bipush {z : Int} {v : Int32} (hd : decode (cz_cc M) pc = .ok (.bipush z, 2)) (hv : (Int8.ofInt z).toInt32 = v) (k : Tr X M (pc + 2) ls (.int v :: st) cn K N I R L n w) : Tr X M pc ls (st) cn K N I R L n w := by
  obtain ⟨p, l, e, s, m, args, below, meth, c, A, Z, g⟩ := X
  intro hC H locs arr hR hS hl
  exact lv_bipush hC.1 hC.2.1 hd hv (k hC H locs arr hR hS hl)
theorem tr_sipush {z : Int} {v : Int32} (hd : decode (cz_cc M) pc = .ok (.sipush z, 3)) (hv : (Int16.ofInt z).toInt32 = v) (k : Tr X M (pc + 3) ls (.int v :: st) cn K N I R L n w) : Tr X M pc ls (st) cn K N I R L n w := by
  obtain ⟨p, l, e, s, m, args, below, meth, c, A, Z, g⟩ := X
  intro hC H locs arr hR hS hl
  exact lv_sipush hC.1 hC.2.1 hd hv (k hC H locs arr hR hS hl)
theorem tr_lconst {z : Fin 2} {v : Int64} (hd : decode (cz_cc M) pc = .ok (.lconst z, 1)) (hv : Int64.ofNat (z : Nat) = v) (k : Tr X M (pc + 1) ls (.long v :: st) cn K N I R L n w) : Tr X M pc ls (st) cn K N I R L n w := by
  obtain ⟨p, l, e, s, m, args, below, meth, c, A, Z, g⟩ := X
  intro hC H locs arr hR hS hl
  exact lv_lconst hC.1 hC.2.1 hd hv (k hC H locs arr hR hS hl)
theorem tr_dup {v : Value} (hd : decode (cz_cc M) pc = .ok (.dup, 1)) (hv : v.category = 1) (k : Tr X M (pc + 1) ls (v :: v :: st) cn K N I R L n w) : Tr X M pc ls (v :: st) cn K N I R L n w := by
  obtain ⟨p, l, e, s, m, args, below, meth, c, A, Z, g⟩ := X
  intro hC H locs arr hR hS hl
  exact lv_dup hC.1 hC.2.1 hd ((cz_rn_cat g v).trans hv) (k hC H locs arr hR hS hl)
theorem tr_pop {v : Value} (hd : decode (cz_cc M) pc = .ok (.pop, 1)) (hv : v.category = 1) (k : Tr X M (pc + 1) ls (st) cn K N I R L n w) : Tr X M pc ls (v :: st) cn K N I R L n w := by
  obtain ⟨p, l, e, s, m, args, below, meth, c, A, Z, g⟩ := X
  intro hC H locs arr hR hS hl
  exact lv_pop hC.1 hC.2.1 hd ((cz_rn_cat g v).trans hv) (k hC H locs arr hR hS hl)
theorem tr_dup2 {v u : Value} (hd : decode (cz_cc M) pc = .ok (.dup2, 1)) (hv : v.category = 1) (hu : u.category = 1) (k : Tr X M (pc + 1) ls (v :: u :: v :: u :: st) cn K N I R L n w) : Tr X M pc ls (v :: u :: st) cn K N I R L n w := by
  obtain ⟨p, l, e, s, m, args, below, meth, c, A, Z, g⟩ := X
  intro hC H locs arr hR hS hl
  exact lv_dup2_11 hC.1 hC.2.1 hd ((cz_rn_cat g v).trans hv) ((cz_rn_cat g u).trans hu) (k hC H locs arr hR hS hl)
theorem tr_iload_n {i : Fin 4} {x : Int32} (hd : decode (cz_cc M) pc = .ok (.iload_n i, 1)) (hv : ls i = some (.int x)) (k : Tr X M (pc + 1) ls (.int x :: st) cn K N I R L n w) : Tr X M pc ls (st) cn K N I R L n w := by
  obtain ⟨p, l, e, s, m, args, below, meth, c, A, Z, g⟩ := X
  intro hC H locs arr hR hS hl
  exact lv_iload_n hC.1 hC.2.1 hd rfl (hl.2.2.1 _ _ hv) (k hC H locs arr hR hS hl)
theorem tr_iload {i : Nat} {x : Int32} (hd : decode (cz_cc M) pc = .ok (.iload i, 2)) (hv : ls i = some (.int x)) (k : Tr X M (pc + 2) ls (.int x :: st) cn K N I R L n w) : Tr X M pc ls (st) cn K N I R L n w := by
  obtain ⟨p, l, e, s, m, args, below, meth, c, A, Z, g⟩ := X
  intro hC H locs arr hR hS hl
  exact lv_iload hC.1 hC.2.1 hd (hl.2.2.1 _ _ hv) (k hC H locs arr hR hS hl)
theorem tr_lload_n {i : Fin 4} {x : Int64} (hd : decode (cz_cc M) pc = .ok (.lload_n i, 1)) (hv : ls i = some (.long x)) (k : Tr X M (pc + 1) ls (.long x :: st) cn K N I R L n w) : Tr X M pc ls (st) cn K N I R L n w := by
  obtain ⟨p, l, e, s, m, args, below, meth, c, A, Z, g⟩ := X
  intro hC H locs arr hR hS hl
  exact lv_lload_n hC.1 hC.2.1 hd rfl (hl.2.2.1 _ _ hv) (k hC H locs arr hR hS hl)
theorem tr_aload_n {i : Fin 4} {x : Nat} (hd : decode (cz_cc M) pc = .ok (.aload_n i, 1)) (hv : ls i = some (.ref x)) (k : Tr X M (pc + 1) ls (.ref x :: st) cn K N I R L n w) : Tr X M pc ls (st) cn K N I R L n w := by
  obtain ⟨p, l, e, s, m, args, below, meth, c, A, Z, g⟩ := X
  intro hC H locs arr hR hS hl
  exact lv_aload_n hC.1 hC.2.1 hd rfl (hl.2.2.1 _ _ hv) (k hC H locs arr hR hS hl)
theorem tr_aload {i x : Nat} (hd : decode (cz_cc M) pc = .ok (.aload i, 2)) (hv : ls i = some (.ref x)) (k : Tr X M (pc + 2) ls (.ref x :: st) cn K N I R L n w) : Tr X M pc ls (st) cn K N I R L n w := by
  obtain ⟨p, l, e, s, m, args, below, meth, c, A, Z, g⟩ := X
  intro hC H locs arr hR hS hl
  exact lv_aload hC.1 hC.2.1 hd (hl.2.2.1 _ _ hv) (k hC H locs arr hR hS hl)
theorem tr_aload_nS {i : Fin 4} {x : UInt32} (hd : decode (cz_cc M) pc = .ok (.aload_n i, 1)) (hv : ls i = some (.float x)) (k : Tr X M (pc + 1) ls (.float x :: st) cn K N I R L n w) : Tr X M pc ls (st) cn K N I R L n w := by
  obtain ⟨p, l, e, s, m, args, below, meth, c, A, Z, g⟩ := X
  intro hC H locs arr hR hS hl
  exact lv_aload_n hC.1 hC.2.1 hd rfl (hl.2.2.1 _ _ hv) (k hC H locs arr hR hS hl)
theorem tr_aloadS {i : Nat} {x : UInt32} (hd : decode (cz_cc M) pc = .ok (.aload i, 2)) (hv : ls i = some (.float x)) (k : Tr X M (pc + 2) ls (.float x :: st) cn K N I R L n w) : Tr X M pc ls (st) cn K N I R L n w := by
  obtain ⟨p, l, e, s, m, args, below, meth, c, A, Z, g⟩ := X
  intro hC H locs arr hR hS hl
  exact lv_aload hC.1 hC.2.1 hd (hl.2.2.1 _ _ hv) (k hC H locs arr hR hS hl)
theorem tr_if_eq {x : Int32} {off : Int} (tgt : Nat) (hd : decode (cz_cc M) pc = .ok (.ifCond .eq off, 3)) (ht : (pc : Int) + off = (tgt : Int)) (kt : x = 0 → Tr X M tgt ls st cn K N I R L n w) (kf : ¬ x = 0 → Tr X M (pc + 3) ls st cn K N I R L n w) : Tr X M pc ls (.int x :: st) cn K N I R L n w := by
  obtain ⟨p, l, e, s, m, args, below, meth, c, A, Z, g⟩ := X
  intro hC H locs arr hR hS hl
  exact lv_if_eq hC.1 hC.2.1 hd ht (fun q => kt q hC H locs arr hR hS hl) (fun q => kf q hC H locs arr hR hS hl)
theorem tr_icmp_eq {x y : Int32} {off : Int} (tgt : Nat) (hd : decode (cz_cc M) pc = .ok (.if_icmp .eq off, 3)) (ht : (pc : Int) + off = (tgt : Int)) (kt : x = y → Tr X M tgt ls st cn K N I R L n w) (kf : ¬ x = y → Tr X M (pc + 3) ls st cn K N I R L n w) : Tr X M pc ls (.int y :: .int x :: st) cn K N I R L n w := by
  obtain ⟨p, l, e, s, m, args, below, meth, c, A, Z, g⟩ := X
  intro hC H locs arr hR hS hl
  exact lv_icmp_eq hC.1 hC.2.1 hd ht (fun q => kt q hC H locs arr hR hS hl) (fun q => kf q hC H locs arr hR hS hl)
theorem tr_if_ne {x : Int32} {off : Int} (tgt : Nat) (hd : decode (cz_cc M) pc = .ok (.ifCond .ne off, 3)) (ht : (pc : Int) + off = (tgt : Int)) (kt : ¬ x = 0 → Tr X M tgt ls st cn K N I R L n w) (kf : x = 0 → Tr X M (pc + 3) ls st cn K N I R L n w) : Tr X M pc ls (.int x :: st) cn K N I R L n w := by
  obtain ⟨p, l, e, s, m, args, below, meth, c, A, Z, g⟩ := X
  intro hC H locs arr hR hS hl
  exact lv_if_ne hC.1 hC.2.1 hd ht (fun q => kt q hC H locs arr hR hS hl) (fun q => kf q hC H locs arr hR hS hl)
theorem tr_icmp_ne {x y : Int32} {off : Int} (tgt : Nat) (hd : decode (cz_cc M) pc = .ok (.if_icmp .ne off, 3)) (ht : (pc : Int) + off = (tgt : Int)) (kt : ¬ x = y → Tr X M tgt ls st cn K N I R L n w) (kf : x = y → Tr X M (pc + 3) ls st cn K N I R L n w) : Tr X M pc ls (.int y :: .int x :: st) cn K N I R L n w := by
  obtain ⟨p, l, e, s, m, args, below, meth, c, A, Z, g⟩ := X
  intro hC H locs arr hR hS hl
  exact lv_icmp_ne hC.1 hC.2.1 hd ht (fun q => kt q hC H locs arr hR hS hl) (fun q => kf q hC H locs arr hR hS hl)
theorem tr_if_lt {x : Int32} {off : Int} (tgt : Nat) (hd : decode (cz_cc M) pc = .ok (.ifCond .lt off, 3)) (ht : (pc : Int) + off = (tgt : Int)) (kt : x < 0 → Tr X M tgt ls st cn K N I R L n w) (kf : ¬ x < 0 → Tr X M (pc + 3) ls st cn K N I R L n w) : Tr X M pc ls (.int x :: st) cn K N I R L n w := by
  obtain ⟨p, l, e, s, m, args, below, meth, c, A, Z, g⟩ := X
  intro hC H locs arr hR hS hl
  exact lv_if_lt hC.1 hC.2.1 hd ht (fun q => kt q hC H locs arr hR hS hl) (fun q => kf q hC H locs arr hR hS hl)
theorem tr_icmp_lt {x y : Int32} {off : Int} (tgt : Nat) (hd : decode (cz_cc M) pc = .ok (.if_icmp .lt off, 3)) (ht : (pc : Int) + off = (tgt : Int)) (kt : x < y → Tr X M tgt ls st cn K N I R L n w) (kf : ¬ x < y → Tr X M (pc + 3) ls st cn K N I R L n w) : Tr X M pc ls (.int y :: .int x :: st) cn K N I R L n w := by
  obtain ⟨p, l, e, s, m, args, below, meth, c, A, Z, g⟩ := X
  intro hC H locs arr hR hS hl
  exact lv_icmp_lt hC.1 hC.2.1 hd ht (fun q => kt q hC H locs arr hR hS hl) (fun q => kf q hC H locs arr hR hS hl)
theorem tr_if_ge {x : Int32} {off : Int} (tgt : Nat) (hd : decode (cz_cc M) pc = .ok (.ifCond .ge off, 3)) (ht : (pc : Int) + off = (tgt : Int)) (kt : 0 ≤ x → Tr X M tgt ls st cn K N I R L n w) (kf : ¬ 0 ≤ x → Tr X M (pc + 3) ls st cn K N I R L n w) : Tr X M pc ls (.int x :: st) cn K N I R L n w := by
  obtain ⟨p, l, e, s, m, args, below, meth, c, A, Z, g⟩ := X
  intro hC H locs arr hR hS hl
  exact lv_if_ge hC.1 hC.2.1 hd ht (fun q => kt q hC H locs arr hR hS hl) (fun q => kf q hC H locs arr hR hS hl)
theorem tr_icmp_ge {x y : Int32} {off : Int} (tgt : Nat) (hd : decode (cz_cc M) pc = .ok (.if_icmp .ge off, 3)) (ht : (pc : Int) + off = (tgt : Int)) (kt : y ≤ x → Tr X M tgt ls st cn K N I R L n w) (kf : ¬ y ≤ x → Tr X M (pc + 3) ls st cn K N I R L n w) : Tr X M pc ls (.int y :: .int x :: st) cn K N I R L n w := by
  obtain ⟨p, l, e, s, m, args, below, meth, c, A, Z, g⟩ := X
  intro hC H locs arr hR hS hl
  exact lv_icmp_ge hC.1 hC.2.1 hd ht (fun q => kt q hC H locs arr hR hS hl) (fun q => kf q hC H locs arr hR hS hl)
theorem tr_if_gt {x : Int32} {off : Int} (tgt : Nat) (hd : decode (cz_cc M) pc = .ok (.ifCond .gt off, 3)) (ht : (pc : Int) + off = (tgt : Int)) (kt : 0 < x → Tr X M tgt ls st cn K N I R L n w) (kf : ¬ 0 < x → Tr X M (pc + 3) ls st cn K N I R L n w) : Tr X M pc ls (.int x :: st) cn K N I R L n w := by
  obtain ⟨p, l, e, s, m, args, below, meth, c, A, Z, g⟩ := X
  intro hC H locs arr hR hS hl
  exact lv_if_gt hC.1 hC.2.1 hd ht (fun q => kt q hC H locs arr hR hS hl) (fun q => kf q hC H locs arr hR hS hl)
theorem tr_icmp_gt {x y : Int32} {off : Int} (tgt : Nat) (hd : decode (cz_cc M) pc = .ok (.if_icmp .gt off, 3)) (ht : (pc : Int) + off = (tgt : Int)) (kt : y < x → Tr X M tgt ls st cn K N I R L n w) (kf : ¬ y < x → Tr X M (pc + 3) ls st cn K N I R L n w) : Tr X M pc ls (.int y :: .int x :: st) cn K N I R L n w := by
  obtain ⟨p, l, e, s, m, args, below, meth, c, A, Z, g⟩ := X
  intro hC H locs arr hR hS hl
  exact lv_icmp_gt hC.1 hC.2.1 hd ht (fun q => kt q hC H locs arr hR hS hl) (fun q => kf q hC H locs arr hR hS hl)
theorem tr_if_le {x : Int32} {off : Int} (tgt : Nat) (hd : decode (cz_cc M) pc = .ok (.ifCond .le off, 3)) (ht : (pc : Int) + off = (tgt : Int)) (kt : x ≤ 0 → Tr X M tgt ls st cn K N I R L n w) (kf : ¬ x ≤ 0 → Tr X M (pc + 3) ls st cn K N I R L n w) : Tr X M pc ls (.int x :: st) cn K N I R L n w := by
  obtain ⟨p, l, e, s, m, args, below, meth, c, A, Z, g⟩ := X
  intro hC H locs arr hR hS hl
  exact lv_if_le hC.1 hC.2.1 hd ht (fun q => kt q hC H locs arr hR hS hl) (fun q => kf q hC H locs arr hR hS hl)
theorem tr_icmp_le {x y : Int32} {off : Int} (tgt : Nat) (hd : decode (cz_cc M) pc = .ok (.if_icmp .le off, 3)) (ht : (pc : Int) + off = (tgt : Int)) (kt : x ≤ y → Tr X M tgt ls st cn K N I R L n w) (kf : ¬ x ≤ y → Tr X M (pc + 3) ls st cn K N I R L n w) : Tr X M pc ls (.int y :: .int x :: st) cn K N I R L n w := by
  obtain ⟨p, l, e, s, m, args, below, meth, c, A, Z, g⟩ := X
  intro hC H locs arr hR hS hl
  exact lv_icmp_le hC.1 hC.2.1 hd ht (fun q => kt q hC H locs arr hR hS hl) (fun q => kf q hC H locs arr hR hS hl)
theorem tr_goto {off : Int} (tgt : Nat) (hd : decode (cz_cc M) pc = .ok (.goto off, 3)) (ht : (pc : Int) + off = (tgt : Int)) (k : Tr X M tgt ls st cn K N I R L n w) : Tr X M pc ls (st) cn K N I R L n w := by
  obtain ⟨p, l, e, s, m, args, below, meth, c, A, Z, g⟩ := X
  intro hC H locs arr hR hS hl
  exact lv_goto hC.1 hC.2.1 hd ht (k hC H locs arr hR hS hl)
theorem tr_ifnonnull {off : Int} {x : Nat} (tgt : Nat) (hd : decode (cz_cc M) pc = .ok (.ifnonnull off, 3)) (ht : (pc : Int) + off = (tgt : Int)) (k : Tr X M tgt ls st cn K N I R L n w) : Tr X M pc ls (.ref x :: st) cn K N I R L n w := by
  obtain ⟨p, l, e, s, m, args, below, meth, c, A, Z, g⟩ := X
  intro hC H locs arr hR hS hl
  exact lv_ifnonnull hC.1 hC.2.1 hd ht (k hC H locs arr hR hS hl)
theorem tr_ifnonnullN {off : Int} (hd : decode (cz_cc M) pc = .ok (.ifnonnull off, 3)) (k : Tr X M (pc + 3) ls (st) cn K N I R L n w) : Tr X M pc ls (.null :: st) cn K N I R L n w := by
  obtain ⟨p, l, e, s, m, args, below, meth, c, A, Z, g⟩ := X
  intro hC H locs arr hR hS hl
  exact lv_ifnonnullN hC.1 hC.2.1 hd (k hC H locs arr hR hS hl)
theorem tr_ifnull {off : Int} {x : Nat} (hd : decode (cz_cc M) pc = .ok (.ifnull off, 3)) (k : Tr X M (pc + 3) ls (st) cn K N I R L n w) : Tr X M pc ls (.ref x :: st) cn K N I R L n w := by
  obtain ⟨p, l, e, s, m, args, below, meth, c, A, Z, g⟩ := X
  intro hC H locs arr hR hS hl
  exact lv_ifnull hC.1 hC.2.1 hd (k hC H locs arr hR hS hl)
theorem tr_ifnullN {off : Int} (tgt : Nat) (hd : decode (cz_cc M) pc = .ok (.ifnull off, 3)) (ht : (pc : Int) + off = (tgt : Int)) (k : Tr X M tgt ls st cn K N I R L n w) : Tr X M pc ls (.null :: st) cn K N I R L n w := by
  obtain ⟨p, l, e, s, m, args, below, meth, c, A, Z, g⟩ := X
  intro hC H locs arr hR hS hl
  exact lv_ifnullN hC.1 hC.2.1 hd ht (k hC H locs arr hR hS hl)
theorem tr_lookup {dflt off : Int} {ps : Array (Int × Int)} {len : Nat} {x : Int32} (tgt : Nat) (hd : decode (cz_cc M) pc = .ok (.lookupswitch dflt ps, len)) (hp : (ps.toList.zip (ps.toList.drop 1)).all (fun (a, next) => a.1 < next.1) = true) (ho : Op.lookupswitch.offset ps.toList dflt x.toInt = off) (ht : (pc : Int) + off = (tgt : Int)) (k : Tr X M tgt ls st cn K N I R L n w) : Tr X M pc ls (.int x :: st) cn K N I R L n w := by
  obtain ⟨p, l, e, s, m, args, below, meth, c, A, Z, g⟩ := X
  intro hC H locs arr hR hS hl
  exact lv_lookup hC.1 hC.2.1 hd hp ho ht (k hC H locs arr hR hS hl)
theorem tr_tabOut {dflt lo hi : Int} {offs : Array Int} {len : Nat} {x : Int32} (tgt : Nat) (hd : decode (cz_cc M) pc = .ok (.tableswitch dflt lo hi offs, len)) (h : x.toInt < lo ∨ hi < x.toInt) (ht : (pc : Int) + dflt = (tgt : Int)) (k : Tr X M tgt ls st cn K N I R L n w) : Tr X M pc ls (.int x :: st) cn K N I R L n w := by
  obtain ⟨p, l, e, s, m, args, below, meth, c, A, Z, g⟩ := X
  intro hC H locs arr hR hS hl
  exact lv_tableOut hC.1 hC.2.1 hd h ht (k hC H locs arr hR hS hl)
theorem tr_tabIn {dflt lo hi off : Int} {offs : Array Int} {len : Nat} {x : Int32} (tgt : Nat) (hd : decode (cz_cc M) pc = .ok (.tableswitch dflt lo hi offs, len)) (h1 : ¬ x.toInt < lo) (h2 : ¬ hi < x.toInt) (ho : offs[(x.toInt - lo).toNat]? = some off) (ht : (pc : Int) + off = (tgt : Int)) (k : Tr X M tgt ls st cn K N I R L n w) : Tr X M pc ls (.int x :: st) cn K N I R L n w := by
  obtain ⟨p, l, e, s, m, args, below, meth, c, A, Z, g⟩ := X
  intro hC H locs arr hR hS hl
  exact lv_tableIn hC.1 hC.2.1 hd h1 h2 ho ht (k hC H locs arr hR hS hl)
end CzRules
end
section
/-! ===== links by their numbers ===== -/
/-- field entries of a class's pool: entry, class, field, kind, nest mate's, its word's place -/
def cz_ft : Nat → List (Nat × Nat × Nat × Nat × Bool × Nat)
  | 0 => [(9, 0, 2, 1, false, 283), (17, 0, 4, 1, false, 290), (21, 0, 6, 1, false, 298), (27, 0, 8, 1, false, 305), (33, 0, 10, 1, false, 314), (39, 0, 12, 1, false, 321), (43, 0, 14, 1, false, 327), (50, 0, 0, 0, false, 274), (54, 0, 1, 0, false, 279), (57, 0, 3, 0, false, 286), (60, 0, 5, 0, false, 294), (63, 0, 7, 0, false, 302), (66, 4, 0, 0, false, 177), (69, 0, 9, 0, false, 310), (72, 0, 11, 0, false, 317), (75, 0, 13, 0, false, 324), (82, 1, 3, 0, false, 263)]
  | 3 => [(9, 3, 3, 1, false, 435), (15, 3, 4, 1, false, 438), (18, 3, 0, 0, false, 428), (22, 3, 1, 0, false, 430), (25, 3, 2, 0, false, 432)]
  | 4 => [(9, 4, 1, 1, false, 181), (15, 4, 0, 0, false, 176)]
  | 5 => [(9, 5, 3, 1, false, 539), (15, 5, 4, 1, false, 540), (18, 5, 5, 1, false, 542), (21, 5, 6, 1, false, 544), (24, 5, 7, 1, false, 546), (27, 5, 8, 1, false, 548), (30, 5, 9, 1, false, 550), (33, 5, 10, 1, false, 552), (36, 5, 11, 1, false, 554), (39, 5, 0, 1, false, 536), (43, 5, 1, 1, false, 537), (47, 5, 2, 0, false, 538), (54, 0, 7, 0, false, 303), (59, 8, 10, 0, false, 500), (64, 8, 11, 1, false, 503), (81, 0, 9, 0, false, 311), (90, 0, 10, 1, false, 315), (94, 9, 5, 0, false, 237), (107, 0, 5, 0, false, 297), (110, 9, 3, 0, false, 233), (112, 0, 6, 1, false, 299), (115, 8, 8, 1, false, 495), (118, 9, 4, 0, false, 235), (125, 9, 1, 0, false, 229), (128, 9, 2, 0, false, 231), (131, 9, 0, 0, false, 227), (134, 8, 2, 1, false, 486), (141, 0, 11, 0, false, 318), (144, 0, 12, 1, false, 322), (147, 1, 0, 0, false, 257), (152, 1, 1, 0, false, 259), (155, 1, 2, 0, false, 261), (158, 0, 8, 1, false, 307), (168, 8, 1, 0, false, 484), (171, 8, 9, 1, false, 499), (174, 0, 0, 0, false, 277), (187, 4, 0, 0, false, 178), (190, 4, 1, 1, false, 182), (192, 0, 2, 1, false, 284)]
  | 6 => [(11, 6, 1, 1, false, 463), (17, 6, 3, 1, false, 466), (21, 6, 0, 0, false, 461), (25, 6, 2, 0, false, 464)]
  | 7 => [(9, 7, 13, 1, false, 380), (15, 7, 14, 1, false, 381), (18, 7, 0, 1, false, 367), (22, 7, 10, 1, false, 377), (31, 7, 11, 3, false, 378), (35, 7, 12, 3, false, 379), (38, 7, 15, 0, false, 382), (42, 7, 16, 0, false, 384), (45, 7, 1, 0, false, 368), (48, 7, 2, 0, false, 369), (58, 7, 3, 0, false, 370), (61, 0, 5, 0, false, 295), (68, 7, 4, 0, false, 371), (78, 7, 5, 2, false, 372), (86, 7, 6, 0, false, 373), (109, 7, 7, 0, false, 374), (112, 0, 1, 0, false, 281), (118, 0, 0, 0, false, 278), (121, 7, 8, 0, false, 375), (129, 7, 9, 0, false, 376), (156, 0, 9, 0, false, 312), (159, 0, 11, 0, false, 319), (162, 0, 13, 0, false, 325), (165, 0, 3, 0, false, 288), (183, 0, 8, 1, false, 308), (196, 0, 14, 1, false, 328), (207, 0, 2, 1, false, 285), (213, 0, 4, 1, false, 292), (217, 2, 0, 0, false, 202), (220, 2, 1, 0, false, 205), (229, 2, 2, 0, false, 208), (230, 2, 3, 0, false, 211), (235, 0, 6, 1, false, 301), (240, 0, 7, 0, false, 304), (243, 0, 10, 1, false, 316), (250, 9, 0, 0, false, 228), (254, 9, 1, 0, false, 230), (255, 9, 2, 0, false, 232), (258, 9, 3, 0, false, 234), (262, 9, 4, 0, false, 236), (274, 9, 5, 0, false, 238), (285, 0, 12, 1, false, 323), (289, 1, 0, 0, false, 258), (295, 1, 1, 0, false, 260), (299, 1, 2, 0, false, 262), (304, 1, 3, 0, false, 264), (306, 4, 0, 0, false, 179), (311, 4, 1, 1, false, 183)]
  | 8 => [(9, 8, 2, 1, false, 485), (15, 8, 3, 1, false, 487), (18, 8, 4, 1, false, 488), (21, 8, 5, 1, false, 489), (25, 8, 6, 1, false, 490), (28, 8, 7, 1, false, 492), (31, 8, 8, 1, false, 494), (34, 8, 9, 1, false, 497), (37, 8, 11, 1, false, 502), (40, 0, 0, 0, false, 275), (46, 8, 0, 0, false, 482), (47, 0, 1, 0, false, 280), (50, 8, 1, 0, false, 483), (56, 0, 3, 0, false, 287), (59, 0, 4, 1, false, 291), (67, 3, 2, 0, false, 433), (72, 3, 3, 1, false, 436), (75, 3, 4, 1, false, 439), (85, 0, 8, 1, false, 306), (93, 2, 2, 0, false, 207), (97, 2, 3, 0, false, 210), (99, 2, 0, 0, false, 201), (102, 2, 1, 0, false, 204), (109, 8, 10, 0, false, 501)]
  | 10 => [(9, 10, 0, 1, false, 580), (16, 10, 2, 1, false, 582), (20, 10, 3, 1, false, 583), (28, 10, 4, 1, false, 584), (35, 10, 6, 1, false, 586), (42, 10, 7, 1, false, 587), (49, 10, 8, 1, false, 588), (58, 10, 10, 1, false, 590), (62, 10, 12, 1, false, 592), (65, 10, 13, 1, false, 593), (68, 10, 14, 1, false, 594), (71, 10, 1, 0, false, 581), (87, 7, 15, 0, false, 383), (90, 10, 15, 0, false, 595), (91, 7, 16, 0, false, 385), (94, 10, 16, 0, false, 596), (95, 10, 5, 3, false, 585), (106, 0, 5, 0, false, 296), (112, 10, 17, 0, false, 597), (129, 8, 7, 1, false, 493), (133, 8, 6, 1, false, 491), (140, 8, 9, 1, false, 498), (143, 8, 8, 1, false, 496), (146, 0, 0, 0, false, 276), (166, 5, 8, 1, false, 549), (169, 5, 9, 1, false, 551), (172, 5, 10, 1, false, 553), (181, 3, 0, 0, false, 429), (204, 0, 6, 1, false, 300), (207, 5, 4, 1, false, 541), (210, 5, 5, 1, false, 543), (213, 5, 6, 1, false, 545), (216, 5, 7, 1, false, 547), (255, 0, 14, 1, false, 329), (269, 3, 1, 0, false, 431), (272, 3, 2, 0, false, 434), (278, 0, 11, 0, false, 320), (288, 10, 11, 3, false, 591), (311, 0, 3, 0, false, 289), (313, 0, 4, 1, false, 293), (317, 2, 0, 0, false, 203), (322, 2, 1, 0, false, 206), (332, 0, 1, 0, false, 282), (335, 0, 9, 0, false, 313), (338, 0, 13, 0, false, 326), (341, 0, 8, 1, false, 309), (345, 4, 0, 0, false, 180), (350, 6, 0, 0, false, 462), (353, 6, 2, 0, false, 465), (358, 10, 9, 3, false, 589), (361, 2, 2, 0, false, 209), (364, 3, 3, 1, false, 437), (366, 2, 3, 0, false, 212), (369, 3, 4, 1, false, 440)]
  | 11 => [(9, 11, 10, 1, false, 1500), (15, 11, 11, 1, false, 1502), (18, 11, 12, 1, false, 1504), (21, 11, 13, 1, false, 1506), (24, 11, 14, 1, false, 1508), (27, 11, 15, 1, false, 1510), (30, 11, 16, 1, false, 1512), (33, 11, 17, 1, false, 1514), (36, 11, 18, 1, false, 1516), (39, 11, 19, 1, false, 1518), (43, 11, 20, 1, false, 1520), (46, 11, 21, 1, false, 1522), (49, 11, 22, 1, false, 1524), (52, 11, 23, 1, false, 1526), (55, 11, 24, 1, false, 1528), (58, 11, 25, 1, false, 1530), (61, 11, 26, 1, false, 1532), (64, 11, 27, 1, false, 1534), (67, 11, 28, 1, false, 1536), (70, 11, 29, 1, false, 1538), (73, 11, 30, 1, false, 1540), (77, 11, 31, 1, false, 1542), (80, 11, 32, 1, false, 1544), (83, 11, 7, 0, false, 1496)]
  | 12 => [(9, 12, 2, 0, false, 1360), (13, 12, 5, 1, false, 1363), (17, 12, 16, 1, false, 1374), (21, 12, 17, 1, false, 1375), (24, 12, 18, 1, false, 1376), (27, 12, 21, 1, false, 1379), (31, 12, 22, 1, false, 1380), (34, 12, 23, 1, false, 1381), (37, 12, 24, 1, false, 1382), (40, 12, 25, 1, false, 1383), (43, 12, 26, 1, false, 1384), (46, 12, 27, 1, false, 1385), (49, 12, 28, 1, false, 1386), (52, 12, 29, 1, false, 1387), (55, 12, 30, 1, false, 1388), (58, 12, 31, 1, false, 1389), (61, 12, 32, 1, false, 1390), (64, 12, 33, 1, false, 1391), (67, 12, 35, 1, false, 1393), (70, 12, 0, 0, false, 1358), (73, 12, 1, 0, false, 1359), (84, 12, 7, 0, false, 1365), (99, 12, 9, 0, false, 1367), (102, 12, 8, 0, false, 1366), (108, 12, 10, 0, false, 1368), (111, 12, 11, 0, false, 1369), (118, 12, 15, 2, false, 1373), (125, 12, 12, 0, false, 1370), (128, 12, 13, 0, false, 1371), (131, 12, 14, 0, false, 1372), (188, 12, 4, 1, false, 1362), (192, 11, 0, 0, true, 0), (205, 11, 30, 1, true, 30), (209, 11, 7, 0, true, 7), (212, 11, 31, 1, true, 31), (215, 11, 32, 1, true, 32), (224, 11, 3, 0, true, 3), (260, 11, 10, 1, true, 10), (263, 11, 1, 0, true, 1), (265, 11, 2, 0, true, 2), (274, 11, 11, 1, true, 11), (277, 11, 12, 1, true, 12), (280, 11, 13, 1, true, 13), (283, 11, 14, 1, true, 14), (296, 11, 15, 1, true, 15), (299, 11, 19, 1, true, 19), (302, 11, 9, 3, true, 9), (306, 11, 16, 1, true, 16), (312, 11, 8, 0, true, 8), (315, 11, 4, 0, true, 4), (333, 11, 20, 1, true, 20), (336, 11, 21, 1, true, 21), (339, 11, 22, 1, true, 22), (342, 11, 23, 1, true, 23), (344, 11, 24, 1, true, 24), (346, 11, 25, 1, true, 25), (349, 11, 5, 0, true, 5), (358, 11, 26, 1, true, 26), (361, 11, 27, 1, true, 27), (364, 11, 28, 1, true, 28), (367, 11, 29, 1, true, 29), (370, 11, 6, 0, true, 6), (373, 11, 18, 1, true, 18), (375, 11, 17, 1, true, 17), (378, 12, 6, 0, false, 1364), (385, 12, 3, 1, false, 1361), (387, 12, 19, 0, false, 1377), (390, 12, 20, 0, false, 1378), (470, 12, 34, 0, false, 1392)]
  | _ => []
def cz_fl (o idx : Nat) : Option (Nat × Nat × Nat × Bool) := ((cz_ft o).find? (fun q => q.1 == idx)).map (fun q => (q.2.1, q.2.2.1, q.2.2.2.1, q.2.2.2.2.1))
def cz_fch (o : Nat) (q : Nat × Nat × Nat × Nat × Bool × Nat) : Bool :=
  decide (q.2.1 < 13) && decide (q.2.2.1 < cz_nf q.2.1) && decide ((cz_fk q.2.1)[q.2.2.1]? = some q.2.2.2.1) &&
  (if q.2.2.2.2.1 then decide ((cz_NF[q.2.2.2.2.2]?).map (fun z => (z.1, z.2.1, z.2.2.1, z.2.2.2.1, z.2.2.2.2.1)) = some (cz_on o, q.1, (cz_TT q.2.1 q.2.2.1).1, (cz_TT q.2.1 q.2.2.1).2.1, (cz_TT q.2.1 q.2.2.1).2.2.1))
   else goodWord (.fieldLink (cz_on o) q.1 (cz_TT q.2.1 q.2.2.1).1 (cz_TT q.2.1 q.2.2.1).2.1 (cz_TT q.2.1 q.2.2.1).2.2.1) && decide (lw_tbl[q.2.2.2.2.2]? = some (.fieldLink (cz_on o) q.1 (cz_TT q.2.1 q.2.2.1).1 (cz_TT q.2.1 q.2.2.1).2.1 (cz_TT q.2.1 q.2.2.1).2.2.1)))
theorem cz_fc0 : (cz_ft 0).all (cz_fch 0) = true := by decide +kernel
theorem cz_fc1 : (cz_ft 1).all (cz_fch 1) = true := by decide +kernel
theorem cz_fc2 : (cz_ft 2).all (cz_fch 2) = true := by decide +kernel
theorem cz_fc3 : (cz_ft 3).all (cz_fch 3) = true := by decide +kernel
theorem cz_fc4 : (cz_ft 4).all (cz_fch 4) = true := by decide +kernel
theorem cz_fc5 : (cz_ft 5).all (cz_fch 5) = true := by decide +kernel
theorem cz_fc6 : (cz_ft 6).all (cz_fch 6) = true := by decide +kernel
theorem cz_fc7 : (cz_ft 7).all (cz_fch 7) = true := by decide +kernel
theorem cz_fc8 : (cz_ft 8).all (cz_fch 8) = true := by decide +kernel
theorem cz_fc9 : (cz_ft 9).all (cz_fch 9) = true := by decide +kernel
theorem cz_fc10 : (cz_ft 10).all (cz_fch 10) = true := by decide +kernel
theorem cz_fc11 : (cz_ft 11).all (cz_fch 11) = true := by decide +kernel
theorem cz_fc12 : (cz_ft 12).all (cz_fch 12) = true := by decide +kernel
theorem cz_fc13 : (cz_ft 13).all (cz_fch 13) = true := by decide +kernel
theorem cz_fc14 : (cz_ft 14).all (cz_fch 14) = true := by decide +kernel
theorem cz_fc15 : (cz_ft 15).all (cz_fch 15) = true := by decide +kernel
theorem cz_fc16 : (cz_ft 16).all (cz_fch 16) = true := by decide +kernel
theorem cz_fall (o : Nat) : (cz_ft o).all (cz_fch o) = true := match o with
  | 0 => cz_fc0
  | 1 => cz_fc1
  | 2 => cz_fc2
  | 3 => cz_fc3
  | 4 => cz_fc4
  | 5 => cz_fc5
  | 6 => cz_fc6
  | 7 => cz_fc7
  | 8 => cz_fc8
  | 9 => cz_fc9
  | 10 => cz_fc10
  | 11 => cz_fc11
  | 12 => cz_fc12
  | 13 => cz_fc13
  | 14 => cz_fc14
  | 15 => cz_fc15
  | 16 => cz_fc16
  | _ + 17 => rfl
theorem cz_in {w : Cond} {i : Nat} (h : lw_tbl[i]? = some w) (hg : goodWord w = true) : w ∈ cz_T := List.mem_filter.mpr ⟨List.mem_of_getElem? h, hg⟩
theorem cz_fl_spec {o idx ci j kd : Nat} {b : Bool} (h : cz_fl o idx = some (ci, j, kd, b)) : ci < 13 ∧ j < cz_nf ci ∧ (cz_fk ci)[j]? = some kd ∧ (b = false → Cond.fieldLink (cz_on o) idx (cz_TT ci j).1 (cz_TT ci j).2.1 (cz_TT ci j).2.2.1 ∈ cz_T) ∧ (b = true → ∃ host, (cz_on o, idx, (cz_TT ci j).1, (cz_TT ci j).2.1, (cz_TT ci j).2.2.1, host) ∈ cz_NF) := by
  unfold cz_fl at h
  cases hq : (cz_ft o).find? (fun q => q.1 == idx) with
  | none => rw [hq] at h; cases h
  | some q =>
    rw [hq] at h
    obtain ⟨q0, q1, q2, q3, q4, q5⟩ := q
    have he := List.find?_some hq
    have hm := List.mem_of_find?_eq_some hq
    have hc := List.all_eq_true.mp (cz_fall o) _ hm
    simp only [Option.map_some, Option.some.injEq, Prod.mk.injEq] at h
    obtain ⟨rfl, rfl, rfl, rfl⟩ := h
    have he : q0 = idx := by simpa using he
    subst he
    simp only [cz_fch, Bool.and_eq_true, decide_eq_true_eq] at hc
    obtain ⟨⟨⟨h1, h2⟩, h3⟩, h4⟩ := hc
    refine ⟨h1, h2, h3, fun hb => ?_, fun hb => ?_⟩
    · rw [hb] at h4
      simp only [Bool.false_eq_true, if_false, Bool.and_eq_true, decide_eq_true_eq] at h4
      exact cz_in h4.2 h4.1
    · rw [hb] at h4
      simp only [if_true, decide_eq_true_eq] at h4
      cases hz : cz_NF[q5]? with
      | none => rw [hz] at h4; cases h4
      | some z =>
        rw [hz] at h4
        obtain ⟨z0, z1, z2, z3, z4, z5⟩ := z
        simp only [Option.map_some, Option.some.injEq, Prod.mk.injEq] at h4
        obtain ⟨rfl, rfl, rfl, rfl, rfl⟩ := h4
        exact ⟨z5, List.mem_of_getElem? hz⟩
/-! ===== the classes ===== -/
theorem cz_i0 : ∀ w ∈ u_ws RX0 TX0 15, w ∈ cz_T := fun w h => List.mem_filter.mpr ((by decide +kernel : ∀ w ∈ u_ws RX0 TX0 15, w ∈ lw_tbl ∧ goodWord w = true) w h)
theorem cz_i1 : ∀ w ∈ u_ws RX1 TX1 4, w ∈ cz_T := fun w h => List.mem_filter.mpr ((by decide +kernel : ∀ w ∈ u_ws RX1 TX1 4, w ∈ lw_tbl ∧ goodWord w = true) w h)
theorem cz_i2 : ∀ w ∈ u_ws RX2 TX2 4, w ∈ cz_T := fun w h => List.mem_filter.mpr ((by decide +kernel : ∀ w ∈ u_ws RX2 TX2 4, w ∈ lw_tbl ∧ goodWord w = true) w h)
theorem cz_i3 : ∀ w ∈ u_ws RX3 TX3 5, w ∈ cz_T := fun w h => List.mem_filter.mpr ((by decide +kernel : ∀ w ∈ u_ws RX3 TX3 5, w ∈ lw_tbl ∧ goodWord w = true) w h)
theorem cz_i4 : ∀ w ∈ u_ws RX4 TX4 2, w ∈ cz_T := fun w h => List.mem_filter.mpr ((by decide +kernel : ∀ w ∈ u_ws RX4 TX4 2, w ∈ lw_tbl ∧ goodWord w = true) w h)
theorem cz_i5 : ∀ w ∈ u_ws RX5 TX5 12, w ∈ cz_T := fun w h => List.mem_filter.mpr ((by decide +kernel : ∀ w ∈ u_ws RX5 TX5 12, w ∈ lw_tbl ∧ goodWord w = true) w h)
theorem cz_i6 : ∀ w ∈ u_ws RX6 TX6 4, w ∈ cz_T := fun w h => List.mem_filter.mpr ((by decide +kernel : ∀ w ∈ u_ws RX6 TX6 4, w ∈ lw_tbl ∧ goodWord w = true) w h)
theorem cz_i7 : ∀ w ∈ u_ws RX7 TX7 17, w ∈ cz_T := fun w h => List.mem_filter.mpr ((by decide +kernel : ∀ w ∈ u_ws RX7 TX7 17, w ∈ lw_tbl ∧ goodWord w = true) w h)
theorem cz_i8 : ∀ w ∈ u_ws RX8 TX8 12, w ∈ cz_T := fun w h => List.mem_filter.mpr ((by decide +kernel : ∀ w ∈ u_ws RX8 TX8 12, w ∈ lw_tbl ∧ goodWord w = true) w h)
theorem cz_i9 : ∀ w ∈ u_ws RX9 TX9 6, w ∈ cz_T := fun w h => List.mem_filter.mpr ((by decide +kernel : ∀ w ∈ u_ws RX9 TX9 6, w ∈ lw_tbl ∧ goodWord w = true) w h)
theorem cz_i10 : ∀ w ∈ u_ws RX10 TX10 18, w ∈ cz_T := fun w h => List.mem_filter.mpr ((by decide +kernel : ∀ w ∈ u_ws RX10 TX10 18, w ∈ lw_tbl ∧ goodWord w = true) w h)
theorem cz_i11 : ∀ w ∈ u_ws RX11 TX11 33, w ∈ cz_T := fun w h => List.mem_filter.mpr ((by decide +kernel : ∀ w ∈ u_ws RX11 TX11 33, w ∈ lw_tbl ∧ goodWord w = true) w h)
theorem cz_i12 : ∀ w ∈ u_ws RX12 TX12 36, w ∈ cz_T := fun w h => List.mem_filter.mpr ((by decide +kernel : ∀ w ∈ u_ws RX12 TX12 36, w ∈ lw_tbl ∧ goodWord w = true) w h)
def cz_ck (ci j kd : Nat) : Bool := match kd with
  | 0 => decide (cz_tf ci j = .int)
  | 1 => match cz_tf ci j with
    | .object _ => true
    | .array _ => true
    | _ => false
  | 2 => decide (cz_tf ci j = .long)
  | _ => decide (kd = 3 ∧ cz_tf ci j = .boolean)
theorem cz_cls {ci : Nat} (h : ci < 13) : vwCl[ci]? = some (cz_on ci, cz_TT ci, cz_nf ci) ∧ (∀ w ∈ u_ws (cz_on ci) (cz_TT ci) (cz_nf ci), w ∈ cz_T) ∧ (∀ k, k < cz_nf ci → parseFieldDescriptor ((cz_TT ci) k).2.2.1 = some (cz_tf ci k)) ∧ (∀ a, a < cz_nf ci → ∀ b, b < cz_nf ci → a ≠ b → ((cz_TT ci) a).2.1 ≠ ((cz_TT ci) b).2.1) ∧ (cz_fk ci).length = cz_nf ci ∧ ((List.range (cz_nf ci)).all (fun j => cz_ck ci j ((cz_fk ci).getD j 9))) = true := match ci, h with
  | 0, _ => ⟨rfl, cz_i0, tyX0_ok, nmX0, rfl, by decide +kernel⟩
  | 1, _ => ⟨rfl, cz_i1, tyX1_ok, nmX1, rfl, by decide +kernel⟩
  | 2, _ => ⟨rfl, cz_i2, tyX2_ok, nmX2, rfl, by decide +kernel⟩
  | 3, _ => ⟨rfl, cz_i3, tyX3_ok, nmX3, rfl, by decide +kernel⟩
  | 4, _ => ⟨rfl, cz_i4, tyX4_ok, nmX4, rfl, by decide +kernel⟩
  | 5, _ => ⟨rfl, cz_i5, tyX5_ok, nmX5, rfl, by decide +kernel⟩
  | 6, _ => ⟨rfl, cz_i6, tyX6_ok, nmX6, rfl, by decide +kernel⟩
  | 7, _ => ⟨rfl, cz_i7, tyX7_ok, nmX7, rfl, by decide +kernel⟩
  | 8, _ => ⟨rfl, cz_i8, tyX8_ok, nmX8, rfl, by decide +kernel⟩
  | 9, _ => ⟨rfl, cz_i9, tyX9_ok, nmX9, rfl, by decide +kernel⟩
  | 10, _ => ⟨rfl, cz_i10, tyX10_ok, nmX10, rfl, by decide +kernel⟩
  | 11, _ => ⟨rfl, cz_i11, tyX11_ok, nmX11, rfl, by decide +kernel⟩
  | 12, _ => ⟨rfl, cz_i12, tyX12_ok, nmX12, rfl, by decide +kernel⟩
  | ci + 13, h => absurd h (by omega)
theorem cz_kd {ci j kd : Nat} (h : ci < 13) (hj : j < cz_nf ci) (hk : (cz_fk ci)[j]? = some kd) : cz_ck ci j kd = true := by
  have h1 := List.all_eq_true.mp (cz_cls h).2.2.2.2.2 j (List.mem_range.mpr hj)
  rw [List.getD_eq_getElem?_getD, hk] at h1
  exact h1
theorem cz_okR {ci j : Nat} {v : Value} (h : cz_ck ci j 1 = true) (hv : v = .null ∨ ∃ a, v = .ref a) : narrow (cz_tf ci j) v = v ∧ fits (cz_tf ci j) v = true := by
  unfold cz_ck at h
  simp only at h
  split at h
  · rename_i q hq
    rcases hv with rfl | ⟨a, rfl⟩ <;> rw [hq] <;> exact ⟨rfl, rfl⟩
  · rename_i q hq
    rcases hv with rfl | ⟨a, rfl⟩ <;> rw [hq] <;> exact ⟨rfl, rfl⟩
  · cases h
theorem cz_okI {ci j : Nat} (x : Int32) (h : cz_ck ci j 0 = true) : narrow (cz_tf ci j) (.int x) = .int x ∧ fits (cz_tf ci j) (.int x) = true := by
  have h : cz_tf ci j = .int := by simpa [cz_ck] using h
  rw [h]; exact ⟨rfl, rfl⟩
theorem cz_okL {ci j : Nat} (x : Int64) (h : cz_ck ci j 2 = true) : narrow (cz_tf ci j) (.long x) = .long x ∧ fits (cz_tf ci j) (.long x) = true := by
  have h : cz_tf ci j = .long := by simpa [cz_ck] using h
  rw [h]; exact ⟨rfl, rfl⟩
theorem cz_okZ {ci j : Nat} {x : Int32} (h : cz_ck ci j 3 = true) (hx : x = 0 ∨ x = 1) : narrow (cz_tf ci j) (.int x) = .int x ∧ fits (cz_tf ci j) (.int x) = true := by
  have h : cz_tf ci j = .boolean := by simpa [cz_ck] using h
  rw [h]; rcases hx with rfl | rfl <;> exact ⟨by decide +kernel, by decide +kernel⟩
theorem cz_fs_at {g : cz_G} {I : cz_I} {R : cz_R} {L : cz_L} {k ci j kd : Nat} (h : (cz_fk ci)[j]? = some kd) : (cz_fs g I R L k ci)[j]? = some (cz_fv g I R L k j kd) := by
  rw [cz_fs, List.getElem?_mapIdx, h]; rfl
section CzW
variable {p : Program} {l : Launch} {e : Env} {s : State} {m : MethodId} {args : Array Value} {below : List Frame} {meth : Method} {c : Code} {A : Nat → Prop} {Z : State → Prop} {g : cz_G} {M : cz_M} {H : Heap} {locs : List Loc} {arr : Array Slot} {pc cn : Nat} {K N : Nat → Nat} {I I' : cz_I} {R R' : cz_R} {L L' : cz_L} {n w : Nat} {rest : List Value}
theorem cz_getf {idx ci j kd k : Nat} {b : Bool} (hC : cz_ok (p, l, e, s, m, args, below, meth, c, A, Z, g) M) (hf : cz_fl M.1 idx = some (ci, j, kd, b)) (hk : K k = ci) (hR : cz_At g A cn K N I R L H) (hd : decode (cz_cc M) pc = .ok (.getfield idx, 3))
    (kk : W p l e (cz_rm M) s m args below meth c H locs n w Z (F0 m (pc + 3) arr (cz_fv g I R L k j kd :: rest))) : W p l e (cz_rm M) s m args below meth c H locs n w Z (F0 m pc arr (.ref (cz_al g k) :: rest)) := by
  obtain ⟨hx, hb, hml, hown, hts, hr, hlocks, hin, hKK, hA⟩ := hC
  obtain ⟨h1, h2, h3, h4, h5⟩ := cz_fl_spec hf
  obtain ⟨c1, c2, -⟩ := cz_cls h1
  have he := cz_getO (g := g) (N := N) (I := I) (R := R) (L := L) hR.2.2.2 hk h1
  cases b with
  | false => exact va_get (D := g.1) hx hb hts c2 hown hKK.1 hR.1 k he c1 j h2 (hts _ (h4 rfl)) (fun _ q => q) (cz_fs_at h3) hd kk
  | true =>
    obtain ⟨host, h6⟩ := h5 rfl
    exact va_getN (D := g.1) (host := host) hx hb hts c2 hown hKK.1 hR.1 k he c1 j h2 (va_Nw.use rfl (hKK.2.1 _ h6)) (fun _ q => q) (cz_fs_at h3) hd kk
/-- the picture behind a store into the cell k -/
theorem cz_stored {k kd : Nat} {H1 : Heap} {e0 : va_E} (hR : cz_At g A cn K N I R L H) (hk : K k = kd) (h99 : kd ≠ 99) (hce : cz_ce g K N I' R' L' k = e0) (hat : va_at g.1 vwCl (cz_al g k, e0) H1) (hz : H1.size = H.size) (oq : ∀ q : Nat, q ≠ cz_al g k → H1[q]? = H[q]?) (ho : ∀ a : Nat, a ≠ k → I' a = I a ∧ R' a = R a ∧ L' a = L a) : cz_At g A cn K N I' R' L' H1 := by
  have hlt := cz_lt hR.2.2.2 hk h99
  have hg := cz_get (g := g) (K := K) (N := N) (I := I) (R := R) (L := L) hlt
  have hs := cz_set (g := g) (c := cn) (K := K) (N := N) (I := I) (R := R) (L := L) hlt hce (fun j hj => cz_ceI (ho j hj).1 (ho j hj).2.1 (ho j hj).2.2)
  refine ⟨?_, ?_, fun i => by rw [hz]; exact hR.2.2.1 i, hR.2.2.2⟩
  · rw [← hs]; exact hR.1.set hR.2.1 hg hat oq
  · rw [← hs]; exact hR.2.1.set hg
theorem cz_putf {idx ci j kd k : Nat} {b : Bool} {v : Value} (hC : cz_ok (p, l, e, s, m, args, below, meth, c, A, Z, g) M) (hf : cz_fl M.1 idx = some (ci, j, kd, b)) (hk : K k = ci) (hR : cz_At g A cn K N I R L H) (hS : va_S A s.heap H locs) (hd : decode (cz_cc M) pc = .ok (.putfield idx, 3))
    (hw : (cz_TT ci j).2.2.2 = false ∨ ((cz_nm M).name = "<init>" ∧ b = false ∧ (cz_TT ci j).1 = cz_on M.1)) (hn : narrow (cz_tf ci j) v = v) (hfit : fits (cz_tf ci j) v = true) (hnew : (cz_fs g I R L k ci).set j v = cz_fs g I' R' L' k ci) (ho : ∀ a : Nat, a ≠ k → I' a = I a ∧ R' a = R a ∧ L' a = L a)
    (kk : ∀ (H1 : Heap) (locs1 : List Loc), cz_At g A cn K N I' R' L' H1 → va_S A s.heap H1 locs1 → W p l e (cz_rm M) s m args below meth c H1 locs1 n w Z (F0 m (pc + 3) arr rest)) : W p l e (cz_rm M) s m args below meth c H locs n w Z (F0 m pc arr (v :: .ref (cz_al g k) :: rest)) := by
  obtain ⟨hx, hb, hml, hown, hts, hr, hlocks, hin, hKK, hA⟩ := hC
  obtain ⟨h1, h2, h3, h4, h5⟩ := cz_fl_spec hf
  obtain ⟨c1, c2, c3, c4, c5, c6⟩ := cz_cls h1
  have he := cz_getO (g := g) (N := N) (I := I) (R := R) (L := L) hR.2.2.2 hk h1
  have hap := va_apart (own := cz_on M.1) hts c2 (cz_tf ci) c3 c4 hKK.1 c1
  obtain ⟨r, q0, cell, q1, q2, q3, q4⟩ := hR.1 k _ he
  have hr2 : r = (cz_on ci, cz_TT ci, cz_nf ci) := Option.some.inj (q0.symm.trans c1)
  subst hr2
  obtain ⟨hSl, hfc, kC, hkC, hkind⟩ := hKK.1.1 ci _ c1
  obtain ⟨cf, kf, fi, f, hi, hsl⟩ := hSl j h2
  have hlay := u_lays hts c2 h2
  have hst := (u_facts hfc hkC hlay hi).1
  have hd0 := c3 j h2
  have h6 := u_fits hfc hkC hkind hlay hi hd0 hn hfit
  have hlen : j < (cz_fs g I R L k ci).length := by rw [cz_fs, List.length_mapIdx, c5]; exact h2
  have fin : ∀ (H' : Heap), H'[cz_al g k]? = some (cell.setSlot f.slot v) → H'.size = H.size → (∀ q, q ≠ cz_al g k → H'[q]? = H[q]?) → cz_At g A cn K N I' R' L' H' ∧ va_S A s.heap H' (locs ++ [⟨cz_al g k, f.slot⟩]) := by
    intro H' e1 e2 e3
    refine ⟨cz_stored hR hk (by omega) (e0 := .inr (ci, (cz_fs g I R L k ci).set j v)) (by rw [cz_ce, hk, if_pos h1, hnew]) ⟨_, c1, ?_⟩ e2 e3 ho, hS.put e2 e3 (hR.2.1.2 k _ he)⟩
    rw [hsl] at e1
    exact t_OB.to (V := updV (vp_V (cz_fs g I R L k ci)) j v) ⟨_, e1, q2, q3, t_set q4 hap h2 v⟩ (fun i _ => vp_updV_set hlen v i)
  have hlt : f.slot < cell.slots.size := by rw [hsl]; exact k2_hasslot (q4 j h2)
  cases hfi : (cz_TT ci j).2.2.2 with
  | true =>
    obtain ⟨g1, rfl, g3⟩ : (cz_nm M).name = "<init>" ∧ b = false ∧ (cz_TT ci j).1 = cz_on M.1 := hw.resolve_left (by rw [hfi]; decide)
    have hlay2 := hts _ (c2 _ (u_in_lay h2))
    unfold u_lay at hlay2
    rw [if_pos hfi] at hlay2
    have hcf : m.cls = cf := by
      obtain ⟨_, _, c', _, _, _, -, -, hf', -, -, -, hown2, -⟩ := Cond.laysFinal_spec hlay2
      have e1 : c' = cf := by have := hi.symm.trans hf'; simp at this; exact this.1.symm
      rw [g3] at hown2
      rw [← e1]; exact Option.some.inj (hown.symm.trans hown2)
    refine W.putFinK hx hb hown (hts _ (h4 rfl)) hi hst hcf (hin g1) (by rw [q2]; exact h6) q1 q3 hlt rfl rfl hd fun H' e1 e2 e3 => ?_
    obtain ⟨f1, f2⟩ := fin H' e1 e2 e3
    exact kk H' _ f1 f2
  | false =>
    have hlay2 := hts _ (c2 _ (u_in_lay h2))
    unfold u_lay at hlay2
    rw [if_neg (by rw [hfi]; decide)] at hlay2
    have h7 := u_store hfc hkC hkind hlay2 hi hd0 hn hfit
    cases b with
    | false =>
      refine W.putK hx hb (f := f) ⟨hown, hts _ (h4 rfl), ⟨_, _, _, hi⟩, hst⟩ (by rw [q2]; exact h7) q1 q3 hlt rfl rfl hd fun H' e1 e2 e3 => ?_
      obtain ⟨f1, f2⟩ := fin H' e1 e2 e3
      exact kk H' _ f1 f2
    | true =>
      obtain ⟨host, h8⟩ := h5 rfl
      refine va_WputK hx hb (f := f) hown (va_Nw.use rfl (hKK.2.1 _ h8)) hi hst (by rw [q2]; exact h7) q1 q3 hlt rfl rfl hd fun H' e1 e2 e3 => ?_
      obtain ⟨f1, f2⟩ := fin H' e1 e2 e3
      exact kk H' _ f1 f2
/-- an array's element is stored -/
theorem cz_asted {k kd : Nat} {H1 : Heap} (hR : cz_At g A cn K N I R L H) (hk : K k = kd) (h1 : 13 ≤ kd) (h2 : kd < 22) (he : H1[cz_al g k]? = some (vp_cell (g.2.1 kd) (N k, cz_ac g I' R' L' k kd))) (hz : H1.size = H.size) (oq : ∀ q : Nat, q ≠ cz_al g k → H1[q]? = H[q]?) (ho : ∀ a : Nat, a ≠ k → I' a = I a ∧ R' a = R a ∧ L' a = L a) : cz_At g A cn K N I' R' L' H1 :=
  cz_stored hR hk (by omega) (e0 := .inl (g.2.1 kd, N k, cz_ac g I' R' L' k kd)) (by rw [cz_ce, hk, if_neg (by omega)]) he hz oq ho
theorem cz_pushed {kd len : Nat} {e0 : va_E} {K' N' : Nat → Nat} {H1 : Heap} (hR : cz_At g A cn K N I R L H) (hS : va_S A s.heap H locs) (hA : ∀ q : Nat, s.heap.size ≤ q → A q) (hK' : K' = va_up K cn kd) (hN' : N' = va_up N cn len) (hI : ∀ a, a < cn → I' a = I a) (hRR : ∀ a, a < cn → R' a = R a) (hL : ∀ a, a < cn → L' a = L a)
    (hce : cz_ce g K' N' I' R' L' cn = e0) (hat : va_at g.1 vwCl (H.size, e0) H1) (hz : H1.size = H.size + 1) (oq : ∀ q : Nat, q < H.size → H1[q]? = H[q]?) : cz_At g A (cn + 1) K' N' I' R' L' H1 ∧ va_S A s.heap H1 locs := by
  have ha : cz_al g cn = H.size := by have := hR.2.2.1 0; simpa using this
  have hp := cz_push (g := g) (c := cn) (K := K) (N := N) (I := I) (R := R) (L := L) hce (fun j hj => by
    have e1 : K' j = K j := by rw [hK', va_up, if_neg (by omega)]
    have e2 : N' j = N j := by rw [hN', va_up, if_neg (by omega)]
    simp only [cz_ce, cz_fs, cz_fv, cz_ac, e1, e2, hI j hj, hRR j hj, hL j hj])
  have hk : ∀ (k : Nat) (x : Nat × va_E), (cz_ws g cn K N I R L)[k]? = some x → H1[x.1]? = H[x.1]? := fun k x hx => oq x.1 ((hR.1 k x hx).lt)
  refine ⟨⟨?_, ?_, fun i => ?_, fun k hk2 => ?_⟩, Nat.le_trans hS.1 (by omega), fun x h1 h2 => (oq x (Nat.lt_of_lt_of_le h1 hS.1)).trans (hS.2.1 x h1 h2), hS.2.2⟩
  · rw [← hp]
    refine (hR.1.kept hk).app (fun k x hx => ?_)
    have hz1 : k < 1 := (List.getElem?_eq_some_iff.mp hx).1
    rw [show k = 0 by omega] at hx
    cases hx
    rw [ha]
    exact hat
  · rw [← hp, ha]
    exact hR.2.1.push hR.1 rfl (hA _ hS.1)
  · have := hR.2.2.1 (i + 1)
    rw [hz, show cn + 1 + i = cn + (i + 1) by omega, this]; omega
  · rw [hK', va_up, if_neg (by omega)]
    exact hR.2.2.2 k (by omega)
end CzW
end
section
/-! ===== locals ===== -/
def cz_ll (g : cz_G) (M : cz_M) (ls : Nat → Option Value) : List (Nat × Value) := (List.range (cz_nL M)).filterMap (fun i => (ls i).map (fun v => (i, cz_rn g v)))
theorem cz_ll_mem {g : cz_G} {M : cz_M} {ls : Nat → Option Value} {i : Nat} {v : Value} (hi : i < cz_nL M) (h : ls i = some v) : (i, cz_rn g v) ∈ cz_ll g M ls := by
  refine List.mem_filterMap.mpr ⟨i, List.mem_range.mpr hi, ?_⟩
  rw [h]; rfl
theorem cz_has {g : cz_G} {M : cz_M} {arr : Array Slot} {ls : Nat → Option Value} (h : cz_lc g M arr ls) : lv_has arr (cz_nL M) (cz_ll g M ls) := by
  refine ⟨h.1, h.2.1, fun q hq => ?_⟩
  obtain ⟨i, -, hi⟩ := List.mem_filterMap.mp hq
  cases hv : ls i with
  | none => rw [hv] at hi; cases hi
  | some v =>
    rw [hv] at hi
    cases hi
    exact h.2.2.1 i v hv
theorem cz_lc_lt {g : cz_G} {M : cz_M} {arr : Array Slot} {ls : Nat → Option Value} (h : cz_lc g M arr ls) {i : Nat} {v : Value} (hv : ls i = some v) : i < cz_nL M := by
  rw [← h.1]; exact lv_lt (h.2.2.1 i v hv)
theorem cz_back1 {g : cz_G} {M : cz_M} {arr arr' : Array Slot} {ls : Nat → Option Value} {i : Nat} {v : Value} (h : cz_lc g M arr ls) (hc : v.category = 1) (hg : ∀ j ∈ cz_lg M, j + 1 ≠ i) (h' : lv_has arr' (cz_nL M) ((i, cz_rn g v) :: (cz_ll g M ls).filter (fun q => !(q.1 == i) && !(q.1 + 1 == i && q.2.category == 2)))) : cz_lc g M arr' (va_up ls i (some v)) := by
  refine ⟨h'.1, h'.2.1, fun j u hj => ?_, fun j u hj hu => ?_⟩
  · by_cases hji : j = i
    · subst hji
      simp only [va_up, if_true, Option.some.injEq] at hj
      subst hj
      exact h'.2.2 _ (List.mem_cons_self)
    · simp only [va_up, if_neg hji] at hj
      refine h'.2.2 (j, cz_rn g u) (List.mem_cons_of_mem _ (List.mem_filter.mpr ⟨cz_ll_mem (cz_lc_lt h hj) hj, ?_⟩))
      have h1 : ¬ (j + 1 = i ∧ u.category = 2) := fun q => hg j (h.2.2.2 j u hj q.2) q.1
      by_cases hq : j + 1 = i
      · have h2 : ¬ u.category = 2 := fun z => h1 ⟨hq, z⟩
        simp [hji, cz_rn_cat, h2]
      · simp [hji, hq]
  · by_cases hji : j = i
    · subst hji
      simp only [va_up, if_true, Option.some.injEq] at hj
      subst hj
      omega
    · simp only [va_up, if_neg hji] at hj
      exact h.2.2.2 j u hj hu
theorem cz_back2 {g : cz_G} {M : cz_M} {arr arr' : Array Slot} {ls : Nat → Option Value} {i : Nat} {x : Int64} (h : cz_lc g M arr ls) (hi : i ∈ cz_lg M) (hg : ∀ j ∈ cz_lg M, j + 1 ≠ i) (h' : lv_has arr' (cz_nL M) ((i, Value.long x) :: (cz_ll g M ls).filter (fun q => !(q.1 == i) && (!(q.1 == i + 1) && !(q.1 + 1 == i && q.2.category == 2))))) : cz_lc g M arr' (va_up (va_up ls i (some (.long x))) (i + 1) none) := by
  refine ⟨h'.1, h'.2.1, fun j u hj => ?_, fun j u hj hu => ?_⟩
  · by_cases hj1 : j = i + 1
    · subst hj1; simp [va_up] at hj
    · rw [va_up, if_neg hj1] at hj
      by_cases hji : j = i
      · subst hji
        simp only [va_up, if_true, Option.some.injEq] at hj
        subst hj
        exact h'.2.2 _ (List.mem_cons_self)
      · simp only [va_up, if_neg hji] at hj
        refine h'.2.2 (j, cz_rn g u) (List.mem_cons_of_mem _ (List.mem_filter.mpr ⟨cz_ll_mem (cz_lc_lt h hj) hj, ?_⟩))
        have h1 : ¬ (j + 1 = i ∧ u.category = 2) := fun q => hg j (h.2.2.2 j u hj q.2) q.1
        by_cases hq : j + 1 = i
        · have h2 : ¬ u.category = 2 := fun z => h1 ⟨hq, z⟩
          simp [hji, hj1, cz_rn_cat, h2]
        · simp [hji, hj1, hq]
  · by_cases hj1 : j = i + 1
    · subst hj1; simp [va_up] at hj
    · rw [va_up, if_neg hj1] at hj
      by_cases hji : j = i
      · subst hji; exact hi
      · simp only [va_up, if_neg hji] at hj
        exact h.2.2.2 j u hj hu
section CzRules2
variable {X : cz_X} {M : cz_M} {pc : Nat} {ls : Nat → Option Value} {st : List Value} {cn : Nat} {K N : Nat → Nat} {I : cz_I} {R : cz_R} {L : cz_L} {n w : Nat}
theorem tr_istore_n {i : Fin 4} {x : Int32} (hd : decode (cz_cc M) pc = .ok (.istore_n i, 1)) (hi : (i : Nat) < cz_nL M) (hg : ∀ j ∈ cz_lg M, j + 1 ≠ (i : Nat)) (k : Tr X M (pc + 1) (va_up ls i (some (.int x))) st cn K N I R L n w) : Tr X M pc ls (.int x :: st) cn K N I R L n w := by
  obtain ⟨p, l, e, s, m, args, below, meth, c, A, Z, g⟩ := X
  intro hC H locs arr hR hS hl
  exact lv_istore_n hC.1 hC.2.1 hd rfl (cz_has hl) hi rfl (fun arr' hl' => k hC H locs arr' hR hS (cz_back1 hl rfl hg hl'))
theorem tr_istore {i : Nat} {x : Int32} (hd : decode (cz_cc M) pc = .ok (.istore i, 2)) (hi : (i : Nat) < cz_nL M) (hg : ∀ j ∈ cz_lg M, j + 1 ≠ (i : Nat)) (k : Tr X M (pc + 2) (va_up ls i (some (.int x))) st cn K N I R L n w) : Tr X M pc ls (.int x :: st) cn K N I R L n w := by
  obtain ⟨p, l, e, s, m, args, below, meth, c, A, Z, g⟩ := X
  intro hC H locs arr hR hS hl
  exact lv_istore hC.1 hC.2.1 hd (cz_has hl) hi rfl (fun arr' hl' => k hC H locs arr' hR hS (cz_back1 hl rfl hg hl'))
theorem tr_astore_n {i : Fin 4} {x : Nat} (hd : decode (cz_cc M) pc = .ok (.astore_n i, 1)) (hi : (i : Nat) < cz_nL M) (hg : ∀ j ∈ cz_lg M, j + 1 ≠ (i : Nat)) (k : Tr X M (pc + 1) (va_up ls i (some (.ref x))) st cn K N I R L n w) : Tr X M pc ls (.ref x :: st) cn K N I R L n w := by
  obtain ⟨p, l, e, s, m, args, below, meth, c, A, Z, g⟩ := X
  intro hC H locs arr hR hS hl
  exact lv_astore_n hC.1 hC.2.1 hd rfl (cz_has hl) hi rfl (fun arr' hl' => k hC H locs arr' hR hS (cz_back1 hl rfl hg hl'))
theorem tr_astore {i : Nat} {x : Nat} (hd : decode (cz_cc M) pc = .ok (.astore i, 2)) (hi : (i : Nat) < cz_nL M) (hg : ∀ j ∈ cz_lg M, j + 1 ≠ (i : Nat)) (k : Tr X M (pc + 2) (va_up ls i (some (.ref x))) st cn K N I R L n w) : Tr X M pc ls (.ref x :: st) cn K N I R L n w := by
  obtain ⟨p, l, e, s, m, args, below, meth, c, A, Z, g⟩ := X
  intro hC H locs arr hR hS hl
  exact lv_astore hC.1 hC.2.1 hd (cz_has hl) hi rfl (fun arr' hl' => k hC H locs arr' hR hS (cz_back1 hl rfl hg hl'))
theorem tr_lstore_n {i : Fin 4} {x : Int64} (hd : decode (cz_cc M) pc = .ok (.lstore_n i, 1)) (hi : (i : Nat) + 1 < cz_nL M) (hm : (i : Nat) ∈ cz_lg M) (hg : ∀ j ∈ cz_lg M, j + 1 ≠ (i : Nat)) (k : Tr X M (pc + 1) (va_up (va_up ls i (some (.long x))) (i + 1) none) st cn K N I R L n w) : Tr X M pc ls (.long x :: st) cn K N I R L n w := by
  obtain ⟨p, l, e, s, m, args, below, meth, c, A, Z, g⟩ := X
  intro hC H locs arr hR hS hl
  exact lv_lstore_n hC.1 hC.2.1 hd rfl (cz_has hl) hi rfl (fun arr' hl' => k hC H locs arr' hR hS (cz_back2 hl hm hg hl'))
theorem tr_iinc {i : Nat} {z : Int} {x : Int32} (hd : decode (cz_cc M) pc = .ok (.iinc i z, 3)) (hv : ls i = some (.int x)) (hg : ∀ j ∈ cz_lg M, j + 1 ≠ i) (k : Tr X M (pc + 3) (va_up ls i (some (.int (x + Int32.ofInt z)))) st cn K N I R L n w) : Tr X M pc ls st cn K N I R L n w := by
  obtain ⟨p, l, e, s, m, args, below, meth, c, A, Z, g⟩ := X
  intro hC H locs arr hR hS hl
  obtain ⟨q, hq⟩ := List.getElem?_of_mem (cz_ll_mem (g := g) (cz_lc_lt hl hv) hv)
  exact lv_iinc hC.1 hC.2.1 hd (cz_has hl) hq rfl (cz_lc_lt hl hv) rfl (fun arr' hl' => k hC H locs arr' hR hS (cz_back1 (v := .int _) hl rfl hg hl'))
theorem cz_fv0 {g : cz_G} {k j : Nat} : cz_fv g I R L k j 0 = .int (I k j) := rfl
theorem cz_fv3 {g : cz_G} {k j : Nat} : cz_fv g I R L k j 3 = .int (I k j) := rfl
theorem cz_fv2 {g : cz_G} {k j : Nat} : cz_fv g I R L k j 2 = .long (L k j) := rfl
theorem cz_fv1 {g : cz_G} {k j x : Nat} (h : R k j = some x) : cz_fv g I R L k j 1 = .ref (cz_al g x) := by rw [cz_fv, if_pos rfl, h]; rfl
theorem cz_fv1n {g : cz_G} {k j : Nat} (h : R k j = none) : cz_fv g I R L k j 1 = .null := by rw [cz_fv, if_pos rfl, h]; rfl
theorem tr_getI {idx ci j k : Nat} {b : Bool} (hd : decode (cz_cc M) pc = .ok (.getfield idx, 3)) (hf : cz_fl M.1 idx = some (ci, j, 0, b)) (hk : K k = ci) (kk : Tr X M (pc + 3) ls (.int (I k j) :: st) cn K N I R L n w) : Tr X M pc ls (.ref k :: st) cn K N I R L n w := by
  obtain ⟨p, l, e, s, m, args, below, meth, c, A, Z, g⟩ := X
  intro hC H locs arr hR hS hl
  refine cz_getf hC hf hk hR hd ?_
  rw [cz_fv0]
  exact kk hC H locs arr hR hS hl
theorem tr_getZ {idx ci j k : Nat} {b : Bool} (hd : decode (cz_cc M) pc = .ok (.getfield idx, 3)) (hf : cz_fl M.1 idx = some (ci, j, 3, b)) (hk : K k = ci) (kk : Tr X M (pc + 3) ls (.int (I k j) :: st) cn K N I R L n w) : Tr X M pc ls (.ref k :: st) cn K N I R L n w := by
  obtain ⟨p, l, e, s, m, args, below, meth, c, A, Z, g⟩ := X
  intro hC H locs arr hR hS hl
  refine cz_getf hC hf hk hR hd ?_
  rw [cz_fv3]
  exact kk hC H locs arr hR hS hl
theorem tr_getL {idx ci j k : Nat} {b : Bool} (hd : decode (cz_cc M) pc = .ok (.getfield idx, 3)) (hf : cz_fl M.1 idx = some (ci, j, 2, b)) (hk : K k = ci) (kk : Tr X M (pc + 3) ls (.long (L k j) :: st) cn K N I R L n w) : Tr X M pc ls (.ref k :: st) cn K N I R L n w := by
  obtain ⟨p, l, e, s, m, args, below, meth, c, A, Z, g⟩ := X
  intro hC H locs arr hR hS hl
  refine cz_getf hC hf hk hR hd ?_
  rw [cz_fv2]
  exact kk hC H locs arr hR hS hl
theorem tr_getR {idx ci j k : Nat} {b : Bool} {x : Nat} (hd : decode (cz_cc M) pc = .ok (.getfield idx, 3)) (hf : cz_fl M.1 idx = some (ci, j, 1, b)) (hk : K k = ci) (hv : R k j = some x) (kk : Tr X M (pc + 3) ls (.ref x :: st) cn K N I R L n w) : Tr X M pc ls (.ref k :: st) cn K N I R L n w := by
  obtain ⟨p, l, e, s, m, args, below, meth, c, A, Z, g⟩ := X
  intro hC H locs arr hR hS hl
  refine cz_getf hC hf hk hR hd ?_
  rw [cz_fv1 hv]
  exact kk hC H locs arr hR hS hl
theorem tr_getN {idx ci j k : Nat} {b : Bool} (hd : decode (cz_cc M) pc = .ok (.getfield idx, 3)) (hf : cz_fl M.1 idx = some (ci, j, 1, b)) (hk : K k = ci) (hv : R k j = none) (kk : Tr X M (pc + 3) ls (.null :: st) cn K N I R L n w) : Tr X M pc ls (.ref k :: st) cn K N I R L n w := by
  obtain ⟨p, l, e, s, m, args, below, meth, c, A, Z, g⟩ := X
  intro hC H locs arr hR hS hl
  refine cz_getf hC hf hk hR hd ?_
  rw [cz_fv1n hv]
  exact kk hC H locs arr hR hS hl
theorem tr_putI {idx ci j k : Nat} {b : Bool} {x : Int32} (hd : decode (cz_cc M) pc = .ok (.putfield idx, 3)) (hf : cz_fl M.1 idx = some (ci, j, 0, b)) (hk : K k = ci) (hw : (cz_TT ci j).2.2.2 = false ∨ ((cz_nm M).name = "<init>" ∧ b = false ∧ (cz_TT ci j).1 = cz_on M.1)) (kk : Tr X M (pc + 3) ls st cn K N (cz_uI I k j x) R L n w) : Tr X M pc ls (.int x :: .ref k :: st) cn K N I R L n w := by
  obtain ⟨p, l, e, s, m, args, below, meth, c, A, Z, g⟩ := X
  intro hC H locs arr hR hS hl
  obtain ⟨h1, h2, h3, -⟩ := cz_fl_spec hf
  have hq := cz_okI x (cz_kd h1 h2 h3)
  exact cz_putf hC hf hk hR hS hd hw hq.1 hq.2 (cz_fsI h3 (by decide) (by decide)) (fun a ha => ⟨cz_uIn ha, rfl, rfl⟩) (fun H1 locs1 hR1 hS1 => kk hC H1 locs1 arr hR1 hS1 hl)
theorem tr_putZ {idx ci j k : Nat} {b : Bool} {x : Int32} (hd : decode (cz_cc M) pc = .ok (.putfield idx, 3)) (hf : cz_fl M.1 idx = some (ci, j, 3, b)) (hk : K k = ci) (hw : (cz_TT ci j).2.2.2 = false ∨ ((cz_nm M).name = "<init>" ∧ b = false ∧ (cz_TT ci j).1 = cz_on M.1)) (hx : x = 0 ∨ x = 1) (kk : Tr X M (pc + 3) ls st cn K N (cz_uI I k j x) R L n w) : Tr X M pc ls (.int x :: .ref k :: st) cn K N I R L n w := by
  obtain ⟨p, l, e, s, m, args, below, meth, c, A, Z, g⟩ := X
  intro hC H locs arr hR hS hl
  obtain ⟨h1, h2, h3, -⟩ := cz_fl_spec hf
  have hq := cz_okZ (cz_kd h1 h2 h3) hx
  exact cz_putf hC hf hk hR hS hd hw hq.1 hq.2 (cz_fsI h3 (by decide) (by decide)) (fun a ha => ⟨cz_uIn ha, rfl, rfl⟩) (fun H1 locs1 hR1 hS1 => kk hC H1 locs1 arr hR1 hS1 hl)
theorem tr_putL {idx ci j k : Nat} {b : Bool} {x : Int64} (hd : decode (cz_cc M) pc = .ok (.putfield idx, 3)) (hf : cz_fl M.1 idx = some (ci, j, 2, b)) (hk : K k = ci) (hw : (cz_TT ci j).2.2.2 = false ∨ ((cz_nm M).name = "<init>" ∧ b = false ∧ (cz_TT ci j).1 = cz_on M.1)) (kk : Tr X M (pc + 3) ls st cn K N I R (cz_uL L k j x) n w) : Tr X M pc ls (.long x :: .ref k :: st) cn K N I R L n w := by
  obtain ⟨p, l, e, s, m, args, below, meth, c, A, Z, g⟩ := X
  intro hC H locs arr hR hS hl
  obtain ⟨h1, h2, h3, -⟩ := cz_fl_spec hf
  have hq := cz_okL x (cz_kd h1 h2 h3)
  exact cz_putf hC hf hk hR hS hd hw hq.1 hq.2 (cz_fsL h3) (fun a ha => ⟨rfl, rfl, cz_uLn ha⟩) (fun H1 locs1 hR1 hS1 => kk hC H1 locs1 arr hR1 hS1 hl)
theorem tr_putR {idx ci j k : Nat} {b : Bool} {x : Nat} (hd : decode (cz_cc M) pc = .ok (.putfield idx, 3)) (hf : cz_fl M.1 idx = some (ci, j, 1, b)) (hk : K k = ci) (hw : (cz_TT ci j).2.2.2 = false ∨ ((cz_nm M).name = "<init>" ∧ b = false ∧ (cz_TT ci j).1 = cz_on M.1)) (kk : Tr X M (pc + 3) ls st cn K N I (cz_uR R k j (some x)) L n w) : Tr X M pc ls (.ref x :: .ref k :: st) cn K N I R L n w := by
  obtain ⟨p, l, e, s, m, args, below, meth, c, A, Z, g⟩ := X
  intro hC H locs arr hR hS hl
  obtain ⟨h1, h2, h3, -⟩ := cz_fl_spec hf
  have hq := cz_okR (v := .ref (cz_al g x)) (cz_kd h1 h2 h3) (Or.inr ⟨_, rfl⟩)
  exact cz_putf hC hf hk hR hS hd hw hq.1 hq.2 (cz_fsR (x := some x) h3) (fun a ha => ⟨rfl, cz_uRn ha, rfl⟩) (fun H1 locs1 hR1 hS1 => kk hC H1 locs1 arr hR1 hS1 hl)
theorem cz_ac13 {g : cz_G} {k : Nat} : cz_ac g I R L k 13 = .inl (I k) := by rw [cz_ac, if_neg (by decide), if_pos (by decide)]
theorem cz_ac14 {g : cz_G} {k : Nat} : cz_ac g I R L k 14 = .inl (I k) := by rw [cz_ac, if_neg (by decide), if_pos (by decide)]
theorem cz_ac16 {g : cz_G} {k : Nat} : cz_ac g I R L k 16 = .inl (I k) := by rw [cz_ac, if_neg (by decide), if_pos (by decide)]
theorem cz_ac15 {g : cz_G} {k : Nat} : cz_ac g I R L k 15 = .inr (.inl (L k)) := by rw [cz_ac, if_pos rfl]
theorem tr_iald {k : Nat} {i : Int32} (hd : decode (cz_cc M) pc = .ok (.iaload, 1)) (hk : K k = 14) (hi : vp_in i (N k)) (kk : Tr X M (pc + 1) ls (.int (I k i.toNatClampNeg) :: st) cn K N I R L n w) : Tr X M pc ls (.int i :: .ref k :: st) cn K N I R L n w := by
  obtain ⟨p, l, e, s, m, args, below, meth, c, A, Z, g⟩ := X
  intro hC H locs arr hR hS hl
  have hg := cz_getA (g := g) (N := N) (I := I) (R := R) (L := L) hR.2.2.2 hk (show 13 ≤ 14 by decide) (by decide)
  rw [cz_ac14] at hg
  exact va_iald (D := g.1) hC.1 hC.2.1 hC.2.2.2.2.2.2.2.2.1.1 hR.1 k (14 - 13) hg (cz_tyat g (kd := 14) (by decide) (by decide)) hi hd (kk hC H locs arr hR hS hl)
theorem tr_bald {k : Nat} {i : Int32} (hd : decode (cz_cc M) pc = .ok (.baload, 1)) (hk : K k = 13) (hi : vp_in i (N k)) (kk : Tr X M (pc + 1) ls (.int (I k i.toNatClampNeg) :: st) cn K N I R L n w) : Tr X M pc ls (.int i :: .ref k :: st) cn K N I R L n w := by
  obtain ⟨p, l, e, s, m, args, below, meth, c, A, Z, g⟩ := X
  intro hC H locs arr hR hS hl
  have hg := cz_getA (g := g) (N := N) (I := I) (R := R) (L := L) hR.2.2.2 hk (show 13 ≤ 13 by decide) (by decide)
  rw [cz_ac13] at hg
  exact va_bald (D := g.1) hC.1 hC.2.1 hC.2.2.2.2.2.2.2.2.1.1 hR.1 k (13 - 13) hg (cz_tyat g (kd := 13) (by decide) (by decide)) hi hd (kk hC H locs arr hR hS hl)
theorem tr_zald {k : Nat} {i : Int32} (hd : decode (cz_cc M) pc = .ok (.baload, 1)) (hk : K k = 16) (hi : vp_in i (N k)) (kk : Tr X M (pc + 1) ls (.int (I k i.toNatClampNeg) :: st) cn K N I R L n w) : Tr X M pc ls (.int i :: .ref k :: st) cn K N I R L n w := by
  obtain ⟨p, l, e, s, m, args, below, meth, c, A, Z, g⟩ := X
  intro hC H locs arr hR hS hl
  have hg := cz_getA (g := g) (N := N) (I := I) (R := R) (L := L) hR.2.2.2 hk (show 13 ≤ 16 by decide) (by decide)
  rw [cz_ac16] at hg
  exact va_zald (D := g.1) hC.1 hC.2.1 hC.2.2.2.2.2.2.2.2.1.1 hR.1 k (16 - 13) hg (cz_tyat g (kd := 16) (by decide) (by decide)) hi hd (kk hC H locs arr hR hS hl)
theorem tr_lald {k : Nat} {i : Int32} (hd : decode (cz_cc M) pc = .ok (.laload, 1)) (hk : K k = 15) (hi : vp_in i (N k)) (kk : Tr X M (pc + 1) ls (.long (L k i.toNatClampNeg) :: st) cn K N I R L n w) : Tr X M pc ls (.int i :: .ref k :: st) cn K N I R L n w := by
  obtain ⟨p, l, e, s, m, args, below, meth, c, A, Z, g⟩ := X
  intro hC H locs arr hR hS hl
  have hg := cz_getA (g := g) (N := N) (I := I) (R := R) (L := L) hR.2.2.2 hk (show 13 ≤ 15 by decide) (by decide)
  rw [cz_ac15] at hg
  exact va_lald (D := g.1) hC.1 hC.2.1 hC.2.2.2.2.2.2.2.2.1.1 hR.1 k (15 - 13) hg (cz_tyat g (kd := 15) (by decide) (by decide)) hi hd (kk hC H locs arr hR hS hl)
theorem cz_tyR {kd : Nat} (h1 : 17 ≤ kd) (h2 : kd < 22) : cz_ty kd = .object (cz_on (cz_el kd)) ∧ cz_el kd < 13 := by
  rcases (show kd = 17 ∨ kd = 18 ∨ kd = 19 ∨ kd = 20 ∨ kd = 21 by omega) with rfl | rfl | rfl | rfl | rfl <;> exact ⟨rfl, by decide⟩
theorem cz_acR {g : cz_G} {k kd : Nat} (h1 : 17 ≤ kd) : cz_ac g I R L k kd = .inr (.inr (.inr (.inr (fun j => (R k j).map (cz_al g))))) := by
  rw [cz_ac, if_neg (by omega), if_neg (by omega)]
theorem tr_aald {k kd x : Nat} {i : Int32} (hd : decode (cz_cc M) pc = .ok (.aaload, 1)) (hk : K k = kd) (h1 : 17 ≤ kd) (h2 : kd < 22) (hi : vp_in i (N k)) (hv : R k i.toNatClampNeg = some x) (kk : Tr X M (pc + 1) ls (.ref x :: st) cn K N I R L n w) : Tr X M pc ls (.int i :: .ref k :: st) cn K N I R L n w := by
  obtain ⟨p, l, e, s, m, args, below, meth, c, A, Z, g⟩ := X
  intro hC H locs arr hR hS hl
  have ht := cz_tyat g (show 13 ≤ kd by omega) h2
  rw [(cz_tyR h1 h2).1] at ht
  have hg := cz_getA (g := g) (N := N) (I := I) (R := R) (L := L) hR.2.2.2 hk (show 13 ≤ kd by omega) h2
  rw [cz_acR h1] at hg
  have hk1 := kk hC H locs arr hR hS hl
  refine va_aldq (D := g.1) hC.1 hC.2.1 hC.2.2.2.2.2.2.2.2.1.1 hR.1 k (kd - 13) hg ht hi hd ?_
  rw [hv]
  exact hk1
theorem tr_alen {k kd : Nat} (hd : decode (cz_cc M) pc = .ok (.arraylength, 1)) (hk : K k = kd) (h1 : 13 ≤ kd) (h2 : kd < 22) (kk : Tr X M (pc + 1) ls (.int (Int32.ofNat (N k)) :: st) cn K N I R L n w) : Tr X M pc ls (.ref k :: st) cn K N I R L n w := by
  obtain ⟨p, l, e, s, m, args, below, meth, c, A, Z, g⟩ := X
  intro hC H locs arr hR hS hl
  exact va_alen (D := g.1) hC.1 hC.2.1 hC.2.2.2.2.2.2.2.2.1.1 hR.1 k (kd - 13) (cz_getA hR.2.2.2 hk h1 h2) (cz_tyat g h1 h2) rfl hd (kk hC H locs arr hR hS hl)
theorem cz_sz {cA : ClassId} {nn : Nat} {f : Nat → Value} {i : Int32} (h : vp_in i nn) : ¬ (i < 0 ∨ (arrV cA nn f).slots.size ≤ i.toNatClampNeg) := by rw [arrV_size]; exact h
theorem tr_iast {k : Nat} {i : Int32} {x : Int32} (hd : decode (cz_cc M) pc = .ok (.iastore, 1)) (hk : K k = 14) (hi : vp_in i (N k)) (kk : Tr X M (pc + 1) ls st cn K N (cz_uI I k i.toNatClampNeg x) R L n w) : Tr X M pc ls (.int x :: .int i :: .ref k :: st) cn K N I R L n w := by
  obtain ⟨p, l, e, s, m, args, below, meth, c, A, Z, g⟩ := X
  intro hC H locs arr hR hS hl
  have hg := cz_getA (g := g) (N := N) (I := I) (R := R) (L := L) hR.2.2.2 hk (show 13 ≤ 14 by decide) (by decide)
  have hty := (hC.2.2.2.2.2.2.2.2.1.1.2 (14 - 13) _ (cz_tyat g (show 13 ≤ 14 by decide) (by decide))).1 (N k) (fun j => .int (I k j))
  have hcell : H[cz_al g k]? = some (arrV (g.2.1 14) (N k) (fun j => .int (I k j))) := by
    have hh : va_at g.1 vwCl (cz_al g k, .inl (g.2.1 14, N k, cz_ac g I R L k 14)) H := hR.1 k _ hg
    rw [cz_ac14] at hh
    exact hh
  refine W.iast hC.1 hC.2.1 hcell hty (fun q => by cases q) (cz_sz hi) rfl rfl hd fun H1 e1 z oq => ?_
  refine kk hC H1 _ arr (cz_asted hR hk (by decide) (by decide) ?_ z oq (fun a ha => ⟨cz_uIn ha, rfl, rfl⟩)) (hS.put z oq (hR.2.1.2 k _ hg)) hl
  rw [e1, cz_ac14, arrV_store, vp_cell_i]
  congr 2
  funext q
  by_cases hq : q = i.toNatClampNeg
  · subst hq
    simp [updV, cz_uI, upd]
    try rfl
  · simp [updV, cz_uI, upd, hq]
theorem tr_bast {k : Nat} {i : Int32} {x : Int32} (hd : decode (cz_cc M) pc = .ok (.bastore, 1)) (hk : K k = 13) (hi : vp_in i (N k)) (kk : Tr X M (pc + 1) ls st cn K N (cz_uI I k i.toNatClampNeg (vp_nar .byte x)) R L n w) : Tr X M pc ls (.int x :: .int i :: .ref k :: st) cn K N I R L n w := by
  obtain ⟨p, l, e, s, m, args, below, meth, c, A, Z, g⟩ := X
  intro hC H locs arr hR hS hl
  have hg := cz_getA (g := g) (N := N) (I := I) (R := R) (L := L) hR.2.2.2 hk (show 13 ≤ 13 by decide) (by decide)
  have hty := (hC.2.2.2.2.2.2.2.2.1.1.2 (13 - 13) _ (cz_tyat g (show 13 ≤ 13 by decide) (by decide))).1 (N k) (fun j => .int (I k j))
  have hcell : H[cz_al g k]? = some (arrV (g.2.1 13) (N k) (fun j => .int (I k j))) := by
    have hh : va_at g.1 vwCl (cz_al g k, .inl (g.2.1 13, N k, cz_ac g I R L k 13)) H := hR.1 k _ hg
    rw [cz_ac13] at hh
    exact hh
  refine W.bast hC.1 hC.2.1 hcell hty (fun q => by cases q) (cz_sz hi) rfl rfl hd fun H1 e1 z oq => ?_
  refine kk hC H1 _ arr (cz_asted hR hk (by decide) (by decide) ?_ z oq (fun a ha => ⟨cz_uIn ha, rfl, rfl⟩)) (hS.put z oq (hR.2.1.2 k _ hg)) hl
  rw [e1, cz_ac13, arrV_store, vp_cell_i]
  congr 2
  funext q
  by_cases hq : q = i.toNatClampNeg
  · subst hq
    simp [updV, cz_uI, upd, vp_nar]
    try rfl
  · simp [updV, cz_uI, upd, vp_nar, hq]
theorem tr_zast {k : Nat} {i : Int32} {x : Int32} (hd : decode (cz_cc M) pc = .ok (.bastore, 1)) (hk : K k = 16) (hi : vp_in i (N k)) (kk : Tr X M (pc + 1) ls st cn K N (cz_uI I k i.toNatClampNeg (vp_nar .boolean x)) R L n w) : Tr X M pc ls (.int x :: .int i :: .ref k :: st) cn K N I R L n w := by
  obtain ⟨p, l, e, s, m, args, below, meth, c, A, Z, g⟩ := X
  intro hC H locs arr hR hS hl
  have hg := cz_getA (g := g) (N := N) (I := I) (R := R) (L := L) hR.2.2.2 hk (show 13 ≤ 16 by decide) (by decide)
  have hty := (hC.2.2.2.2.2.2.2.2.1.1.2 (16 - 13) _ (cz_tyat g (show 13 ≤ 16 by decide) (by decide))).1 (N k) (fun j => .int (I k j))
  have hcell : H[cz_al g k]? = some (arrV (g.2.1 16) (N k) (fun j => .int (I k j))) := by
    have hh : va_at g.1 vwCl (cz_al g k, .inl (g.2.1 16, N k, cz_ac g I R L k 16)) H := hR.1 k _ hg
    rw [cz_ac16] at hh
    exact hh
  refine W.zast hC.1 hC.2.1 hcell hty (fun q => by cases q) (cz_sz hi) rfl rfl hd fun H1 e1 z oq => ?_
  refine kk hC H1 _ arr (cz_asted hR hk (by decide) (by decide) ?_ z oq (fun a ha => ⟨cz_uIn ha, rfl, rfl⟩)) (hS.put z oq (hR.2.1.2 k _ hg)) hl
  rw [e1, cz_ac16, arrV_store, vp_cell_i]
  congr 2
  funext q
  by_cases hq : q = i.toNatClampNeg
  · subst hq
    simp [updV, cz_uI, upd, vp_nar]
    try rfl
  · simp [updV, cz_uI, upd, vp_nar, hq]
theorem tr_last {k : Nat} {i : Int32} {x : Int64} (hd : decode (cz_cc M) pc = .ok (.lastore, 1)) (hk : K k = 15) (hi : vp_in i (N k)) (kk : Tr X M (pc + 1) ls st cn K N I R (cz_uL L k i.toNatClampNeg x) n w) : Tr X M pc ls (.long x :: .int i :: .ref k :: st) cn K N I R L n w := by
  obtain ⟨p, l, e, s, m, args, below, meth, c, A, Z, g⟩ := X
  intro hC H locs arr hR hS hl
  have hg := cz_getA (g := g) (N := N) (I := I) (R := R) (L := L) hR.2.2.2 hk (show 13 ≤ 15 by decide) (by decide)
  have hty := (hC.2.2.2.2.2.2.2.2.1.1.2 (15 - 13) _ (cz_tyat g (show 13 ≤ 15 by decide) (by decide))).1 (N k) (fun j => .long (L k j))
  have hcell : H[cz_al g k]? = some (arrV (g.2.1 15) (N k) (fun j => .long (L k j))) := by
    have hh : va_at g.1 vwCl (cz_al g k, .inl (g.2.1 15, N k, cz_ac g I R L k 15)) H := hR.1 k _ hg
    rw [cz_ac15] at hh
    exact hh
  refine W.last hC.1 hC.2.1 hcell hty (fun q => by cases q) (cz_sz hi) rfl rfl hd fun H1 e1 z oq => ?_
  refine kk hC H1 _ arr (cz_asted hR hk (by decide) (by decide) ?_ z oq (fun a ha => ⟨rfl, rfl, cz_uLn ha⟩)) (hS.put z oq (hR.2.1.2 k _ hg)) hl
  rw [e1, cz_ac15, arrV_store, vp_cell_l]
  congr 2
  funext q
  by_cases hq : q = i.toNatClampNeg
  · subst hq
    simp [updV, cz_uL, vp_updL]
    try rfl
  · simp [updV, cz_uL, vp_updL, hq]
theorem tr_aast {k kd x : Nat} {i : Int32} (hd : decode (cz_cc M) pc = .ok (.aastore, 1)) (hk : K k = kd) (h1 : 17 ≤ kd) (h2 : kd < 22) (hx : K x = cz_el kd) (hi : vp_in i (N k)) (kk : Tr X M (pc + 1) ls st cn K N I (cz_uR R k i.toNatClampNeg (some x)) L n w) : Tr X M pc ls (.ref x :: .int i :: .ref k :: st) cn K N I R L n w := by
  obtain ⟨p, l, e, s, m, args, below, meth, c, A, Z, g⟩ := X
  intro hC H locs arr hR hS hl
  have hKK := hC.2.2.2.2.2.2.2.2.1.1
  have hlt : i.toNatClampNeg < N k := Nat.not_le.mp fun q => hi (Or.inr q)
  have h0 : ¬ i < 0 := fun q => hi (Or.inl q)
  have hty := cz_tyR h1 h2
  obtain ⟨c1, -⟩ := cz_cls hty.2
  have hg := cz_getA (g := g) (N := N) (I := I) (R := R) (L := L) hR.2.2.2 hk (show 13 ≤ kd by omega) h2
  have hgx := cz_getO (g := g) (N := N) (I := I) (R := R) (L := L) hR.2.2.2 hx hty.2
  obtain ⟨r', hr', cellV, g1, g2, g3, -⟩ := hR.1 x _ hgx
  have hcls := (hKK.1 _ _ c1).2
  have htk := (hKK.2 (kd - 13) _ (cz_tyat g (show 13 ≤ kd by omega) h2)).2
  rw [hty.1] at htk
  obtain ⟨kA, comp, k1, k2, k3, -⟩ := htk
  have hcomp : comp = g.1.1 (cz_el kd) := Option.some.inj (k3.symm.trans hcls.1)
  subst hcomp
  obtain ⟨kC, hkC, -⟩ := hcls.2
  have hcell : H[cz_al g k]? = some (arrV (g.2.1 kd) (N k) (fun j => va_rf ((R k j).map (cz_al g)))) := by
    have hh : va_at g.1 vwCl (cz_al g k, .inl (g.2.1 kd, N k, cz_ac g I R L k kd)) H := hR.1 k _ hg
    rw [cz_acR h1] at hh
    exact hh
  refine W.aast hC.1 hC.2.1 hcell (fun q h => by cases h) (fun h => by cases h) k1 k2 rfl hkC ⟨h0, by rw [arrV_size]; exact hlt⟩ g1 (fun q h => by rw [g3] at h; cases h) (by rw [g2]; exact hkC) (by rw [g2]; exact va_assign hcls) rfl rfl hd fun H1 e1 z oq => ?_
  refine kk hC H1 _ arr (cz_asted hR hk (by omega) h2 ?_ z oq (fun a ha => ⟨rfl, cz_uRn ha, rfl⟩)) (hS.put z oq (hR.2.1.2 k _ hg)) hl
  rw [e1, cz_acR h1, arrV_store, vp_cell_q]
  congr 2
  funext q
  by_cases hq : q = i.toNatClampNeg
  · subst hq
    simp [updV, cz_uR, va_up, va_rf]
  · simp [updV, cz_uR, va_up, hq]
/-! ===== what is made ===== -/
theorem cz_zero {g : cz_G} {k ci j : Nat} (h : ci < 13) (hj : j < cz_nf ci) (h1 : ∀ i, I k i = 0) (h2 : ∀ i, R k i = none) (h3 : ∀ i, L k i = 0) : defaultValue (cz_tf ci j) = vp_V (cz_fs g I R L k ci) j := by
  obtain ⟨-, -, -, -, c5, -⟩ := cz_cls h
  obtain ⟨kd, hkd⟩ : ∃ kd, (cz_fk ci)[j]? = some kd := ⟨_, List.getElem?_eq_getElem (by rw [c5]; exact hj)⟩
  have hck := cz_kd h hj hkd
  rw [vp_V, List.getD_eq_getElem?_getD, cz_fs_at hkd, Option.getD_some]
  rcases (show kd = 0 ∨ kd = 1 ∨ kd = 2 ∨ kd = 3 by
    match kd, hck with
    | 0, _ => exact Or.inl rfl
    | 1, _ => exact Or.inr (Or.inl rfl)
    | 2, _ => exact Or.inr (Or.inr (Or.inl rfl))
    | kd + 3, hck => have : kd + 3 = 3 ∧ cz_tf ci j = .boolean := by simpa [cz_ck] using hck
                     exact Or.inr (Or.inr (Or.inr this.1))) with rfl | rfl | rfl | rfl
  · rw [cz_fv0, h1, show cz_tf ci j = .int by simpa [cz_ck] using hck]; rfl
  · rw [cz_fv1n (h2 j)]
    unfold cz_ck at hck
    simp only at hck
    split at hck
    · rename_i q hq; rw [hq]; rfl
    · rename_i q hq; rw [hq]; rfl
    · cases hck
  · rw [cz_fv2, h3, show cz_tf ci j = .long by simpa [cz_ck] using hck]; rfl
  · rw [cz_fv3, h1, show cz_tf ci j = .boolean by simpa [cz_ck] using hck]; rfl
theorem tr_new {idx ci : Nat} (hd : decode (cz_cc M) pc = .ok (.new idx, 3)) (hci : ci < 13) (hl1 : Cond.classLink (cz_on M.1) idx (cz_on ci) ∈ cz_T) (hl2 : Cond.instantiable (cz_on ci) (cz_nf ci) ∈ cz_T) (hl3 : Cond.initialized (cz_on ci) ∈ cz_T) (hn : n + 1 ≤ (cz_rm M).cells) (hw : w + cz_nf ci ≤ (cz_rm M).slots)
    (kk : Tr X M (pc + 3) ls (.ref cn :: st) (cn + 1) (va_up K cn ci) (va_up N cn 0) (va_up I cn (fun _ => 0)) (va_up R cn (fun _ => none)) (va_up L cn (fun _ => 0)) (n + 1) (w + cz_nf ci)) : Tr X M pc ls st cn K N I R L n w := by
  obtain ⟨p, l, e, s, m, args, below, meth, c, A, Z, g⟩ := X
  intro hC H locs arr hR hS hl
  obtain ⟨hx, hb, hml, hown, hts, hr, hlocks, hin, hKK, hA⟩ := id hC
  obtain ⟨c1, c2, c3, c4, c5, c6⟩ := cz_cls hci
  have hKn := hKK.1.1 ci _ c1
  refine W.newcK hx hb hown (hts _ hl1) (hts _ hl2) (hts _ hl3) rfl hd hn hw hKn.2.1 rfl fun H1 kC hkC e1 z1 o1 => ?_
  have ha : cz_al g cn = H.size := by have := hR.2.2.1 0; simpa using this
  have up : ∀ {α : Type} {f : Nat → α} {v : α} (a : Nat), a < cn → va_up f cn v a = f a := fun a h => by rw [va_up, if_neg (by omega)]
  obtain ⟨f1, f2⟩ := cz_pushed (s := s) (kd := ci) (len := 0) (e0 := .inr (ci, cz_fs g (va_up I cn (fun _ => 0)) (va_up R cn (fun _ => none)) (va_up L cn (fun _ => 0)) cn ci)) (K' := va_up K cn ci) (N' := va_up N cn 0) (I' := va_up I cn (fun _ => 0)) (R' := va_up R cn (fun _ => none)) (L' := va_up L cn (fun _ => 0)) hR hS hA rfl rfl (fun a h => up a h) (fun a h => up a h) (fun a h => up a h)
    (by rw [cz_ce, show va_up K cn ci cn = ci by simp [va_up], if_pos hci]) ⟨_, c1, (u_born (cz_tf ci) hts c2 hKn hkC e1 c3).to (fun j hj => cz_zero hci hj (fun i => by simp [va_up]) (fun i => by simp [va_up]) (fun i => by simp [va_up]))⟩ z1 o1
  have hk := kk hC H1 locs arr f1 f2 hl
  rw [List.map_cons, show cz_rn g (.ref cn) = .ref H.size by rw [← ha]; rfl] at hk
  exact hk
def cz_at : ArrayType → Nat
  | .byte => 13
  | .int => 14
  | .long => 15
  | .boolean => 16
  | _ => 99
theorem tr_newa {ty : ArrayType} {x : Int32} {len : Nat} (hd : decode (cz_cc M) pc = .ok (.newarray ty, 2)) (hty : cz_at ty < 99) (hl1 : Cond.arrayClass (newarray.typeOf ty) ∈ cz_T) (hx0 : ¬ x < 0) (hlen : x.toNatClampNeg = len) (hsm : len ≤ 4096) (hn : n + 1 ≤ (cz_rm M).cells) (hw : w + len ≤ (cz_rm M).slots)
    (kk : Tr X M (pc + 2) ls (.ref cn :: st) (cn + 1) (va_up K cn (cz_at ty)) (va_up N cn len) (va_up I cn (fun _ => 0)) (va_up R cn (fun _ => none)) (va_up L cn (fun _ => 0)) (n + 1) (w + len)) : Tr X M pc ls (.int x :: st) cn K N I R L n w := by
  obtain ⟨p, l, e, s, m, args, below, meth, c, A, Z, g⟩ := X
  intro hC H locs arr hR hS hl
  obtain ⟨hx, hb, hml, hown, hts, hr, hlocks, hin, hKK, hA⟩ := id hC
  have hb4 : len * componentBytes (newarray.typeOf ty) ≤ 536870912 := by
    have : componentBytes (newarray.typeOf ty) ≤ 8 := by cases ty <;> decide
    exact Nat.le_trans (Nat.mul_le_mul hsm this) (by decide)
  refine va_newaK hx hb (hts _ hl1) rfl hd rfl hx0 hlen hb4 hn hw rfl fun H1 cA e1 z1 o1 hAr hNm => ?_
  have ha : cz_al g cn = H.size := by have := hR.2.2.1 0; simpa using this
  have up : ∀ {α : Type} {f : Nat → α} {v : α} (a : Nat), a < cn → va_up f cn v a = f a := fun a h => by rw [va_up, if_neg (by omega)]
  have hk13 : 13 ≤ cz_at ty := by revert hty; cases ty <;> decide
  have hk17 : cz_at ty < 17 := by revert hty; cases ty <;> decide
  have hcz : cz_ty (cz_at ty) = newarray.typeOf ty := by revert hty; cases ty <;> decide
  have hcA : g.2.1 (cz_at ty) = cA := by
    have h1 := (hKK.1.2 (cz_at ty - 13) _ (cz_tyat g hk13 (by omega))).2
    rw [hcz] at h1
    have h2 : s.vm.findClass ("[" ++ (newarray.typeOf ty).toString) = some (g.2.1 (cz_at ty)) := by revert h1; cases ty <;> exact fun h => h
    exact Option.some.inj (h2.symm.trans hNm)
  obtain ⟨f1, f2⟩ := cz_pushed (s := s) (kd := cz_at ty) (len := len) (e0 := .inl (g.2.1 (cz_at ty), len, cz_ac g (va_up I cn (fun _ => 0)) (va_up R cn (fun _ => none)) (va_up L cn (fun _ => 0)) cn (cz_at ty))) (K' := va_up K cn (cz_at ty)) (N' := va_up N cn len) (I' := va_up I cn (fun _ => 0)) (R' := va_up R cn (fun _ => none)) (L' := va_up L cn (fun _ => 0)) hR hS hA rfl rfl (fun a h => up a h) (fun a h => up a h) (fun a h => up a h)
    (by rw [cz_ce, show va_up K cn (cz_at ty) cn = cz_at ty by simp [va_up], if_neg (by omega), show va_up N cn len cn = len by simp [va_up]]) (by
      show H1[H.size]? = some (vp_cell _ _)
      rw [e1, hcA]
      revert hty
      cases ty <;> intro hty <;> first | (exact absurd hty (by decide)) | (simp only [cz_at, cz_ac]; simp [vp_cell, va_up]; try rfl)) z1 o1
  have hk := kk hC H1 locs arr f1 f2 hl
  rw [List.map_cons, show cz_rn g (.ref cn) = .ref H.size by rw [← ha]; rfl] at hk
  exact hk
theorem tr_newq {idx kd : Nat} {x : Int32} {len : Nat} (hd : decode (cz_cc M) pc = .ok (.anewarray idx, 3)) (h1 : 17 ≤ kd) (h2 : kd < 22) (hl1 : Cond.classLink (cz_on M.1) idx (cz_on (cz_el kd)) ∈ cz_T) (hl2 : cz_on (cz_el kd) ∈ cz_AO) (hx0 : ¬ x < 0) (hlen : x.toNatClampNeg = len) (hsm : len ≤ 4096) (hn : n + 1 ≤ (cz_rm M).cells) (hw : w + len ≤ (cz_rm M).slots)
    (kk : Tr X M (pc + 3) ls (.ref cn :: st) (cn + 1) (va_up K cn kd) (va_up N cn len) (va_up I cn (fun _ => 0)) (va_up R cn (fun _ => none)) (va_up L cn (fun _ => 0)) (n + 1) (w + len)) : Tr X M pc ls (.int x :: st) cn K N I R L n w := by
  obtain ⟨p, l, e, s, m, args, below, meth, c, A, Z, g⟩ := X
  intro hC H locs arr hR hS hl
  obtain ⟨hx, hb, hml, hown, hts, hr, hlocks, hin, hKK, hA⟩ := id hC
  subst hlen
  have hty := cz_tyR h1 h2
  refine W.anew hx hb hown (hts _ hl1) (va_AO.use (hKK.2.2.2.1 _ hl2)) rfl hd rfl hx0 (by omega) hn hw fun cA kA comp q1 q2 q3 q4 => ?_
  generalize hH1 : H.push ({ cls := cA, slots := Array.replicate x.toNatClampNeg .null, vm := .none } : Cell) = H1
  have z1 : H1.size = H.size + 1 := by rw [← hH1, Array.size_push]
  have e1 : H1[H.size]? = some (arrV cA x.toNatClampNeg (fun _ => .null)) := by rw [← hH1, Array.getElem?_push_size, ← arrV_new]
  have o1 : ∀ q : Nat, q < H.size → H1[q]? = H[q]? := fun q hq => by rw [← hH1, Array.getElem?_push, if_neg (Nat.ne_of_lt hq)]
  have ha : cz_al g cn = H.size := by have := hR.2.2.1 0; simpa using this
  have up : ∀ {α : Type} {f : Nat → α} {v : α} (a : Nat), a < cn → va_up f cn v a = f a := fun a h => by rw [va_up, if_neg (by omega)]
  have hcA : g.2.1 kd = cA := by
    have h3 := (hKK.1.2 (kd - 13) _ (cz_tyat g (show 13 ≤ kd by omega) h2)).2
    rw [hty.1] at h3
    obtain ⟨kA', comp', -, -, -, h4⟩ := h3
    exact Option.some.inj (h4.symm.trans q1)
  obtain ⟨f1, f2⟩ := cz_pushed (s := s) (kd := kd) (len := x.toNatClampNeg) (e0 := .inl (g.2.1 kd, x.toNatClampNeg, cz_ac g (va_up I cn (fun _ => 0)) (va_up R cn (fun _ => none)) (va_up L cn (fun _ => 0)) cn kd)) (K' := va_up K cn kd) (N' := va_up N cn x.toNatClampNeg) (I' := va_up I cn (fun _ => 0)) (R' := va_up R cn (fun _ => none)) (L' := va_up L cn (fun _ => 0)) hR hS hA rfl rfl (fun a h => up a h) (fun a h => up a h) (fun a h => up a h)
    (by rw [cz_ce, show va_up K cn kd cn = kd by simp [va_up], if_neg (by omega), show va_up N cn x.toNatClampNeg cn = x.toNatClampNeg by simp [va_up]]) (by
      show H1[H.size]? = some (vp_cell _ _)
      rw [e1, hcA, cz_acR h1]
      simp [vp_cell, va_up, va_rf]) z1 o1
  have hk := kk hC H1 locs arr f1 f2 hl
  rw [List.map_cons, show cz_rn g (.ref cn) = .ref H.size by rw [← ha]; rfl] at hk
  exact hk
/-! ===== constants ===== -/
theorem tr_ldc {idx : Nat} {v : Int32} (hd : decode (cz_cc M) pc = .ok (.ldc idx, 2)) (hl1 : Cond.constant (cz_on M.1) idx v ∈ cz_T) (k : Tr X M (pc + 2) ls (.int v :: st) cn K N I R L n w) : Tr X M pc ls st cn K N I R L n w := by
  obtain ⟨p, l, e, s, m, args, below, meth, c, A, Z, g⟩ := X
  intro hC H locs arr hR hS hl
  exact lv_ldc hC.1 hC.2.1 hC.2.2.2.1 (hC.2.2.2.2.1 _ hl1) hd (k hC H locs arr hR hS hl)
theorem tr_ldcw {idx : Nat} {v : Int32} (hd : decode (cz_cc M) pc = .ok (.ldc_w idx, 3)) (hl1 : Cond.constant (cz_on M.1) idx v ∈ cz_T) (k : Tr X M (pc + 3) ls (.int v :: st) cn K N I R L n w) : Tr X M pc ls st cn K N I R L n w := by
  obtain ⟨p, l, e, s, m, args, below, meth, c, A, Z, g⟩ := X
  intro hC H locs arr hR hS hl
  exact lv_ldcw hC.1 hC.2.1 hC.2.2.2.1 (hC.2.2.2.2.1 _ hl1) hd (k hC H locs arr hR hS hl)
theorem tr_ldc2 {idx : Nat} {v : Int64} (hd : decode (cz_cc M) pc = .ok (.ldc2_w idx, 3)) (hl1 : Cond.constantLong (cz_on M.1) idx v ∈ cz_T) (k : Tr X M (pc + 3) ls (.long v :: st) cn K N I R L n w) : Tr X M pc ls st cn K N I R L n w := by
  obtain ⟨p, l, e, s, m, args, below, meth, c, A, Z, g⟩ := X
  intro hC H locs arr hR hS hl
  exact lv_ldc2 hC.1 hC.2.1 hC.2.2.2.1 (hC.2.2.2.2.1 _ hl1) hd (k hC H locs arr hR hS hl)
theorem tr_ldcS {idx : Nat} {tx : String} {u : UInt32} (hd : decode (cz_cc M) pc = .ok (.ldc idx, 2)) (hl1 : (cz_on M.1, idx, tx, u.toNat) ∈ cz_SR) (k : Tr X M (pc + 2) ls (.float u :: st) cn K N I R L n w) : Tr X M pc ls st cn K N I R L n w := by
  obtain ⟨p, l, e, s, m, args, below, meth, c, A, Z, g⟩ := X
  intro hC H locs arr hR hS hl
  have hKK : cz_K g s := hC.2.2.2.2.2.2.2.2.1
  have hz : vk_R (cz_on M.1) idx tx (cz_sa g u.toNat) s := hKK.2.2.2.2 (cz_on M.1, idx, tx, u.toNat) hl1
  have hk := k hC H locs arr hR hS hl
  rw [List.map_cons, show cz_rn g (.float u) = .ref (cz_sa g u.toNat) from rfl] at hk
  exact va_ldcS hC.1 hC.2.1 hC.2.2.2.1 hz hd hk
theorem cz_ldcWS {p : Program} {l : Launch} {e : Env} {Rm : Room} {s : State} {m : MethodId} {args : Array Value} {below : List Frame} {meth : Method} {c : Code} {H : Heap} {locs : List Loc} {cells slots : Nat} {Q : State → Prop} {arr : Array Slot} {rest : List Value} {cc : ByteArray} (hexec : p.tables.exec = Jvm.exec) (hb : c.code = cc) {own tx : String} {index q : Nat} (hown : s.vm.findClass own = some m.cls) (hZ : vk_R own index tx q s) (hdg : decode cc pc = .ok (.ldc_w index, 3))
    (k : W p l e Rm s m args below meth c H locs cells slots Q (F0 m (pc + 3) arr (.ref q :: rest))) : W p l e Rm s m args below meth c H locs cells slots Q (F0 m pc arr rest) := by
  intro T hT X
  obtain ⟨t, a1, b1⟩ := k T hT X
  refine ⟨t, ?_, b1⟩
  obtain ⟨k, cf, i, a', hk, hcf, hcp, -, hr, hev'⟩ := Cond.stringRef_spec hown hZ.1
  cases hZ.2.symm.trans hev'
  obtain ⟨k', hk', he⟩ := X.warmed.alike.2.2 _ _ hk
  have hr' : k'.resolved[index]? = some (some (.string q)) := by
    rcases X.warmed.entry hk hk' index with h | ⟨h, -⟩
    · rw [h]; exact hr
    · rw [hr] at h; cases h
  subst hb
  jvm_step X.here [hexec, hdg, ldc_w.wp_string (e := e) (s := T) (f := F0 m pc arr rest) X.here.top hk' (by rw [he]; exact hcf) hcp hr']
  exact a1
theorem tr_ldcwS {idx : Nat} {tx : String} {u : UInt32} (hd : decode (cz_cc M) pc = .ok (.ldc_w idx, 3)) (hl1 : (cz_on M.1, idx, tx, u.toNat) ∈ cz_SR) (k : Tr X M (pc + 3) ls (.float u :: st) cn K N I R L n w) : Tr X M pc ls st cn K N I R L n w := by
  obtain ⟨p, l, e, s, m, args, below, meth, c, A, Z, g⟩ := X
  intro hC H locs arr hR hS hl
  have hKK : cz_K g s := hC.2.2.2.2.2.2.2.2.1
  have hz : vk_R (cz_on M.1) idx tx (cz_sa g u.toNat) s := hKK.2.2.2.2 (cz_on M.1, idx, tx, u.toNat) hl1
  have hk := k hC H locs arr hR hS hl
  rw [List.map_cons, show cz_rn g (.float u) = .ref (cz_sa g u.toNat) from rfl] at hk
  exact cz_ldcWS hC.1 hC.2.1 hC.2.2.2.1 hz hd hk
end CzRules2
end
section
/-! ===== contracts over the store ===== -/
abbrev cz_Q : Type := Option Value → Nat → (Nat → Nat) → (Nat → Nat) → cz_I → cz_R → cz_L → Prop
def cz_Qc (g : cz_G) (A : Nat → Prop) (Q : cz_Q) : Array Value → State → Outcome → State → Prop := fun _ st oc t =>
  (∃ (r : Option Value) (cn : Nat) (K N : Nat → Nat) (I : cz_I) (R : cz_R) (L : cz_L), oc = .returned (r.map (cz_rn g)) ∧ Q r cn K N I R L ∧ cz_At g A cn K N I R L t.heap) ∧ va_F A st t
def cz_Pc (g : cz_G) (sz : Nat) (as : List Value) (cn : Nat) (K N : Nat → Nat) (I : cz_I) (R : cz_R) (L : cz_L) : Array Value → State → Prop :=
  va_Pc (as.map (cz_rn g)) (fun U => U.heap.size = sz ∧ cz_At g (va_A (cz_ws g cn K N I R L) sz) cn K N I R L U.heap ∧ cz_K g U)
/-- THE CONTRACT: the method M, with these arguments and this store, returns with Q -/
def Con (l : Launch) (M : cz_M) (as : List Value) (cn : Nat) (K N : Nat → Nat) (I : cz_I) (R : cz_R) (L : cz_L) (Q : cz_Q) : Prop :=
  ∀ (g : cz_G) (sz : Nat), Met l (cz_nm M) (cz_wd M) (cz_rm M) (cz_Pc g sz as cn K N I R L) (cz_Qc g (va_A (cz_ws g cn K N I R L) sz) Q) (cz_rm M).cells (cz_rm M).slots (va_A (cz_ws g cn K N I R L) sz)
/-- a body's end is its contract's -/
def cz_Z : cz_X → cz_M → cz_Q → Prop
  | (_, _, _, s, _, args, below, _, _, A, Z, g), M, Q => Z = MQ below (cz_Qc g A Q) args s (cz_rm M).cells (cz_rm M).slots A
/-- the locals at the entry -/
def cz_en (as : List Value) (i : Nat) : Option Value := ((lv_args 0 as).find? (fun q => q.1 == i)).map (fun q => q.2)
theorem cz_args (g : cz_G) : ∀ (as : List Value) (i : Nat), lv_args i (as.map (cz_rn g)) = (lv_args i as).map (fun q => (q.1, cz_rn g q.2))
  | [], _ => rfl
  | v :: vs, i => by
    rw [List.map_cons, lv_args, lv_args, List.map_cons, cz_rn_cat, cz_args g vs]
theorem cz_sl (g : cz_G) : ∀ (as : List Value), (lg_sl (as.map (cz_rn g))).length = (lg_sl as).length
  | [] => rfl
  | v :: vs => by
    have h := cz_sl g vs
    simp only [lg_sl, List.map_cons, List.flatMap_cons, List.length_append, cz_rn_cat] at h ⊢
    rw [h]
    split <;> rfl
theorem Con.of {l : Launch} {M : cz_M} {as : List Value} {cn : Nat} {K N : Nat → Nat} {I : cz_I} {R : cz_R} {L : cz_L} {Q : cz_Q} (hy : plainName (cz_nm M).cls = true) (ho : (cz_nm M).cls = cz_on M.1) (hlen : (lg_sl as).length ≤ cz_nL M) (hlg : (lv_args 0 as).all (fun q => !(q.2.category == 2) || (cz_lg M).contains q.1) = true)
    (body : ∀ X : cz_X, X.2.1 = l → cz_Z X M Q → Tr X M 0 (cz_en as) [] cn K N I R L 0 0) : Con l M as cn K N I R L Q := by
  intro g sz
  refine Met.ofW (cc := cz_cc M) (maxL := cz_nL M) (ret := cz_rt M) (ws' := cz_T) hy rfl ?_
  intro p e s m args below meth c s₁ B hml hv
  obtain ⟨rfl, hsz, hR, hK⟩ := hv
  have hts := atoms_spec (ws := cz_wd M) B.pre
  have hown : s.vm.findClass (cz_on M.1) = some m.cls := by rw [← ho]; exact findClass_of_methodNamed B.named
  have hb := body (p, l, e, s, m, (as.map (cz_rn g)).toArray, below, meth, c, va_A (cz_ws g cn K N I R L) sz, MQ below (cz_Qc g (va_A (cz_ws g cn K N I R L) sz) Q) (as.map (cz_rn g)).toArray s (cz_rm M).cells (cz_rm M).slots (va_A (cz_ws g cn K N I R L) sz), g) rfl rfl
  have hl := lv_entry (as.map (cz_rn g)) (n := cz_nL M) (by rw [cz_sl]; exact hlen)
  rw [lg_entry_eq]
  refine hb ⟨B.exec, B.bytes, hml, hown, fun w hw => hts w (List.mem_cons_of_mem _ hw), B.returns, B.notSynchronized, fun h => (name_of_methodNamed B.named B.method).1.trans h, hK, fun q hq => Or.inr (by rw [← hsz]; exact hq)⟩ s.heap [] _ hR va_S.rf ?_
  rw [cz_args] at hl
  have hmem : ∀ (i : Nat) (v : Value), cz_en as i = some v → (i, v) ∈ lv_args 0 as := by
    intro i v h
    unfold cz_en at h
    cases hq : (lv_args 0 as).find? (fun q => q.1 == i) with
    | none => rw [hq] at h; cases h
    | some q =>
      rw [hq] at h
      cases h
      have h1 : q.1 = i := by simpa using List.find?_some hq
      have h2 := List.mem_of_find?_eq_some hq
      rw [← h1]; exact h2
  refine ⟨hl.1, hl.2.1, fun i v h => hl.2.2 (i, cz_rn g v) (List.mem_map.mpr ⟨(i, v), hmem i v h, rfl⟩), fun i v h hc => ?_⟩
  have h1 := List.all_eq_true.mp hlg _ (hmem i v h)
  simpa [hc] using h1
theorem cz_Pc_blind {g : cz_G} {sz : Nat} {as : List Value} {cn : Nat} {K N : Nat → Nat} {I : cz_I} {R : cz_R} {L : cz_L} : FrameBlind (cz_Pc g sz as cn K N I R L) := fun a U fr mk q => ⟨q.1, q.2.1, q.2.2.1, cz_K.same (s := U) (U := U.calling fr mk a) rfl q.2.2.2⟩
theorem Con.mono {l : Launch} {M : cz_M} {as : List Value} {cn : Nat} {K N : Nat → Nat} {I : cz_I} {R : cz_R} {L : cz_L} {Q Q' : cz_Q} (h : Con l M as cn K N I R L Q) (hq : ∀ r cn K N I R L, Q r cn K N I R L → Q' r cn K N I R L) : Con l M as cn K N I R L Q' := by
  intro g sz p e ha hc hk s m args below hf hpre hP hT
  obtain ⟨k, o, h1, h2, h3, ⟨⟨⟨r, cn2, K2, N2, I2, R2, L2, e1, e2, e3⟩, h5⟩, h6⟩⟩ := h g sz p e ha hc hk s m args below hf hpre hP hT
  exact ⟨k, o, h1, h2, h3, ⟨⟨r, cn2, K2, N2, I2, R2, L2, e1, hq _ _ _ _ _ _ _ e2, e3⟩, h5⟩, h6⟩
section CzCalls
variable {X : cz_X} {M : cz_M} {pc : Nat} {ls : Nat → Option Value} {st : List Value} {cn : Nat} {K N : Nat → Nat} {I : cz_I} {R : cz_R} {L : cz_L} {n w : Nat} {Q : cz_Q}
theorem tr_iret {x : Int32} (hZ : cz_Z X M Q) (hd : decode (cz_cc M) pc = .ok (.ireturn, 1)) (hrt : cz_rt M = some .int) (hn : n ≤ (cz_rm M).cells) (hw : w ≤ (cz_rm M).slots) (hq : Q (some (.int x)) cn K N I R L) : Tr X M pc ls ([.int x]) cn K N I R L n w := by
  obtain ⟨p, l, e, s, m, args, below, meth, c, A, Z, g⟩ := X
  intro hC H locs arr hR hS hl
  have hZ : Z = _ := hZ
  subst hZ
  have hlocks : meth.locks = false := hC.2.2.2.2.2.2.1
  refine W.widen hn hw ?_
  exact W.iret (v := x) hC.1 hC.2.1 (hC.2.2.2.2.2.1.trans hrt) (fun t ht hW => ⟨⟨some (.int x), cn, K, N, I, R, L, rfl, hq, by rw [ht]; exact hR⟩, hS.F ht⟩) hS.2.2 hd
theorem tr_zret {x : Int32} (hZ : cz_Z X M Q) (hd : decode (cz_cc M) pc = .ok (.ireturn, 1)) (hrt : cz_rt M = some .boolean) (hx : x = 0 ∨ x = 1) (hn : n ≤ (cz_rm M).cells) (hw : w ≤ (cz_rm M).slots) (hq : Q (some (.int x)) cn K N I R L) : Tr X M pc ls ([.int x]) cn K N I R L n w := by
  obtain ⟨p, l, e, s, m, args, below, meth, c, A, Z, g⟩ := X
  intro hC H locs arr hR hS hl
  have hZ : Z = _ := hZ
  subst hZ
  have hlocks : meth.locks = false := hC.2.2.2.2.2.2.1
  refine W.widen hn hw ?_
  exact W.zret (v := x) hC.1 hC.2.1 (hC.2.2.2.2.2.1.trans hrt) (by rcases hx with rfl | rfl <;> decide +kernel) (fun t ht hW => ⟨⟨some (.int x), cn, K, N, I, R, L, rfl, hq, by rw [ht]; exact hR⟩, hS.F ht⟩) hS.2.2 hd
theorem tr_lret {x : Int64} (hZ : cz_Z X M Q) (hd : decode (cz_cc M) pc = .ok (.lreturn, 1)) (hrt : cz_rt M = some .long) (hn : n ≤ (cz_rm M).cells) (hw : w ≤ (cz_rm M).slots) (hq : Q (some (.long x)) cn K N I R L) : Tr X M pc ls ([.long x]) cn K N I R L n w := by
  obtain ⟨p, l, e, s, m, args, below, meth, c, A, Z, g⟩ := X
  intro hC H locs arr hR hS hl
  have hZ : Z = _ := hZ
  subst hZ
  have hlocks : meth.locks = false := hC.2.2.2.2.2.2.1
  refine W.widen hn hw ?_
  exact W.lret (v := x) hC.1 hC.2.1 (hC.2.2.2.2.2.1.trans hrt) (fun t ht hW => ⟨⟨some (.long x), cn, K, N, I, R, L, rfl, hq, by rw [ht]; exact hR⟩, hS.F ht⟩) hS.2.2 hd
theorem tr_aret {x : Nat} {C : String} (hZ : cz_Z X M Q) (hd : decode (cz_cc M) pc = .ok (.areturn, 1)) (hrt : cz_rt M = some (.object C)) (hn : n ≤ (cz_rm M).cells) (hw : w ≤ (cz_rm M).slots) (hq : Q (some (.ref x)) cn K N I R L) : Tr X M pc ls ([.ref x]) cn K N I R L n w := by
  obtain ⟨p, l, e, s, m, args, below, meth, c, A, Z, g⟩ := X
  intro hC H locs arr hR hS hl
  have hZ : Z = _ := hZ
  subst hZ
  have hlocks : meth.locks = false := hC.2.2.2.2.2.2.1
  refine W.widen hn hw ?_
  exact W.aret (v := .ref (cz_al g x)) hC.1 hC.2.1 (hC.2.2.2.2.2.1.trans hrt) (Or.inl ⟨_, rfl⟩) (Or.inr ⟨_, rfl⟩) (fun t ht hW => ⟨⟨some (.ref x), cn, K, N, I, R, L, rfl, hq, by rw [ht]; exact hR⟩, hS.F ht⟩) hS.2.2 hd
theorem tr_aretS {x : UInt32} {C : String} (hZ : cz_Z X M Q) (hd : decode (cz_cc M) pc = .ok (.areturn, 1)) (hrt : cz_rt M = some (.object C)) (hn : n ≤ (cz_rm M).cells) (hw : w ≤ (cz_rm M).slots) (hq : Q (some (.float x)) cn K N I R L) : Tr X M pc ls ([.float x]) cn K N I R L n w := by
  obtain ⟨p, l, e, s, m, args, below, meth, c, A, Z, g⟩ := X
  intro hC H locs arr hR hS hl
  have hZ : Z = _ := hZ
  subst hZ
  have hlocks : meth.locks = false := hC.2.2.2.2.2.2.1
  refine W.widen hn hw ?_
  exact W.aret (v := .ref (cz_sa g x.toNat)) hC.1 hC.2.1 (hC.2.2.2.2.2.1.trans hrt) (Or.inl ⟨_, rfl⟩) (Or.inr ⟨_, rfl⟩) (fun t ht hW => ⟨⟨some (.float x), cn, K, N, I, R, L, rfl, hq, by rw [ht]; exact hR⟩, hS.F ht⟩) hS.2.2 hd
theorem tr_vret (hZ : cz_Z X M Q) (hd : decode (cz_cc M) pc = .ok (.return_, 1)) (hrt : cz_rt M = none) (hn : n ≤ (cz_rm M).cells) (hw : w ≤ (cz_rm M).slots) (hq : Q (none) cn K N I R L) : Tr X M pc ls ([]) cn K N I R L n w := by
  obtain ⟨p, l, e, s, m, args, below, meth, c, A, Z, g⟩ := X
  intro hC H locs arr hR hS hl
  have hZ : Z = _ := hZ
  subst hZ
  have hlocks : meth.locks = false := hC.2.2.2.2.2.2.1
  refine W.widen hn hw ?_
  exact W.vret hC.1 hC.2.1 (hC.2.2.2.2.2.1.trans hrt) (fun t ht hW => ⟨⟨none, cn, K, N, I, R, L, rfl, hq, by rw [ht]; exact hR⟩, hS.F ht⟩) hS.2.2 hd
theorem tr_obj {k idx : Nat} (hd : decode (cz_cc M) pc = .ok (.invokespecial idx, 3)) (hl1 : Cond.methodLink (cz_on M.1) idx objectInit ∈ cz_T) (hl2 : Cond.instanceMethod objectInit ∈ cz_T) (hl3 : Cond.code objectInit ⟨#[0xb1]⟩ 1 none ∈ cz_T) (hf : 1 ≤ (cz_rm M).frames) (ho : (st.map fun v => v.category).sum + 12 ≤ (cz_rm M).locals) (kk : Tr X M (pc + 3) ls st cn K N I R L n w) : Tr X M pc ls (.ref k :: st) cn K N I R L n w := by
  obtain ⟨p, l, e, s, m, args, below, meth, c, A, Z, g⟩ := X
  intro hC H locs arr hR hS hl
  have hts := hC.2.2.2.2.1
  refine W.objInit hC.1 hC.2.1 hC.2.2.2.1 (hts _ hl1) (hts _ hl2) (hts _ hl3) rfl (by rw [hC.2.2.1]; exact hl.1) rfl hd hf ?_ ?_
  · have : 2 * (F0 m pc arr (List.map (cz_rn g) (Value.ref k :: st))).monitorRoom = 0 := rfl
    rw [this, cz_rn_sum]; omega
  · exact kk hC H locs arr hR hS hl
/-! ===== calls ===== -/
def cz_room (M M' : cz_M) : Prop := (cz_rm M').frames + 1 ≤ (cz_rm M).frames ∧ 8 + (cz_nL M' + 11) + (cz_rm M').locals ≤ (cz_rm M).locals
/-- a method as the words know it: its class's number, its parameters -/
def cz_my (M' : cz_M) (ci np : Nat) : Prop := (cz_nm M').cls = cz_on ci ∧ Cond.code (cz_nm M') (cz_cc M') (cz_nL M') (cz_rt M') ∈ cz_T ∧ Cond.initialized (cz_on ci) ∈ cz_T ∧ ((cz_nm M').cls ≠ "java/lang/invoke/MethodHandle" ∧ (cz_nm M').cls ≠ "java/lang/invoke/VarHandle" ∧ (parseMethodDescriptor (cz_nm M').desc).map (fun d => d.parameters.length) = some np)
theorem cz_good {M' : cz_M} (h : Cond.code (cz_nm M') (cz_cc M') (cz_nL M') (cz_rt M') ∈ cz_T) : GoodIn cz_T (cz_wd M') := by
  intro w hw
  have h1 : w ∈ cz_T := by
    rcases List.mem_cons.mp hw with rfl | h2
    · exact h
    · exact h2
  exact ⟨h1, good_of_word (List.mem_filter.mp h1).2⟩
section CzBack
variable {p : Program} {l : Launch} {e : Env} {s : State} {m : MethodId} {args : Array Value} {below : List Frame} {meth : Method} {c : Code} {A : Nat → Prop} {Z : State → Prop} {g : cz_G} {H : Heap} {locs : List Loc} {arr : Array Slot} {fr : JFrame}
/-- behind a call -/
theorem cz_after {a : Array Value} {mc ms : Nat} {st0 : List Value} (hC : cz_ok (p, l, e, s, m, args, below, meth, c, A, Z, g) M) (hR : cz_At g A cn K N I R L H) (hS : va_S A s.heap H locs) (hl : cz_lc g M arr ls)
    (hr : va_Run p l e (cz_rm M) s m args below meth c H locs n w mc ms (F0 m pc arr st0) (st.map (cz_rn g)) (cz_Qc g (va_A (cz_ws g cn K N I R L) H.size) Q a) (va_A (cz_ws g cn K N I R L) H.size))
    (kk : ∀ r cn' K' N' I' R' L', Q r cn' K' N' I' R' L' → Tr (p, l, e, s, m, args, below, meth, c, A, Z, g) M (pc + 3) ls (r.toList ++ st) cn' K' N' I' R' L' (n + mc) (w + ms)) : W p l e (cz_rm M) s m args below meth c H locs n w Z (F0 m pc arr st0) := by
  have hfree : ∀ q, va_A (cz_ws g cn K N I R L) H.size q → A q := by
    intro q h
    rcases h with ⟨k, e, h⟩ | h
    · exact hR.2.1.2 k (q, e) h
    · exact hC.2.2.2.2.2.2.2.2.2 q (Nat.le_trans hS.1 h)
  intro T hT X
  obtain ⟨v, st₀, t, T', LL, h0, X', hL, e1, e2, ⟨⟨r, cn2, K2, N2, I2, R2, L2, hv, hq, hAt⟩, hz, hk⟩, stp⟩ := hr T hT X
  have hv : v = r.map (cz_rn g) := by cases hv; rfl
  subst hv
  rw [h0] at hz hk
  have hAt2 : cz_At g A cn2 K2 N2 I2 R2 L2 T'.heap := by
    rw [e1]; exact ⟨hAt.1, hAt.2.1.weaken (fun _ q _ h => hfree q.1 h), hAt.2.2⟩
  have hS2 : va_S A s.heap T'.heap (locs ++ LL) := ⟨Nat.le_trans hS.1 (by rw [e1]; exact hz), fun q h1 h2 => by rw [e1, hk q (Nat.lt_of_lt_of_le h1 hS.1) (fun z => h2 (hfree q z))]; exact hS.2.1 q h1 h2, fun q hq => by
      rcases List.mem_append.mp hq with h | h
      · exact hS.2.2 q h
      · exact hfree _ (hL q h)⟩
  have hw := kk r cn2 K2 N2 I2 R2 L2 hq hC T'.heap (locs ++ LL) arr hAt2 hS2 hl
  obtain ⟨t2, a1, b1⟩ := hw T' rfl X'
  refine ⟨t2, stp t2 ?_, b1⟩
  have he : (r.toList ++ st).map (cz_rn g) = (r.map (cz_rn g)).toList ++ st.map (cz_rn g) := by cases r <;> rfl
  rw [he] at a1
  exact a1
theorem cz_pre {as : List Value} (hC : cz_ok (p, l, e, s, m, args, below, meth, c, A, Z, g) M) (hR : cz_At g A cn K N I R L H) : ∀ U : State, U.heap = H → s.WarmedH U.vm → cz_Pc g H.size as cn K N I R L (as.map (cz_rn g)).toArray U := by
  intro U hU hW
  refine ⟨rfl, by rw [hU], ?_, cz_K.warm hW hC.2.2.2.2.2.2.2.2.1⟩
  rw [hU]
  exact ⟨hR.1, hR.2.1.self, hR.2.2⟩
end CzBack
theorem cz_rest {st : List Value} (g : cz_G) {m : MethodId} {arr : Array Slot} {stk : List Value} (h : (st.map fun v => v.category).sum ≤ 8) : 2 * (F0 m pc arr stk).monitorRoom + ((st.map (cz_rn g)).map fun v => v.category).sum ≤ 8 := by
  rw [cz_rn_sum]; exact lv_room h
theorem cz_stk (g : cz_G) (as st : List Value) : (as.reverse ++ st).map (cz_rn g) = (as.map (cz_rn g)).reverse ++ st.map (cz_rn g) := by rw [List.map_append, List.map_reverse]
theorem tr_callV {M' : cz_M} {as : List Value} {k ci np idx : Nat} (hd : decode (cz_cc M) pc = .ok (.invokevirtual idx, 3)) (hlk : Cond.methodLink (cz_on M.1) idx (cz_nm M') ∈ cz_T) (hin : Cond.instanceMethod (cz_nm M') ∈ cz_T) (hse : Cond.selects (cz_on ci) (cz_nm M') (cz_nm M') ∈ cz_T) (hmy : cz_my M' ci np) (hci : ci < 13) (hrm : cz_room M M') (hnp : as.length = np) (hk : K k = ci) (hst : (st.map fun v => v.category).sum ≤ 8) (hn : n + (cz_rm M').cells ≤ (cz_rm M).cells) (hw : w + (cz_rm M').slots ≤ (cz_rm M).slots)
    (hCon : Con X.2.1 M' (.ref k :: as) cn K N I R L Q) (kk : ∀ r cn' K' N' I' R' L', Q r cn' K' N' I' R' L' → Tr X M (pc + 3) ls (r.toList ++ st) cn' K' N' I' R' L' (n + (cz_rm M').cells) (w + (cz_rm M').slots)) : Tr X M pc ls (as.reverse ++ .ref k :: st) cn K N I R L n w := by
  obtain ⟨p, l, e, s, m, args, below, meth, c, A, Z, g⟩ := X
  intro hC H locs arr hR hS hl
  have hts := hC.2.2.2.2.1
  obtain ⟨y1, y2, y3, y4⟩ := hmy
  have hcb := callB_of (R := cz_rm M) (own := cz_on M.1) (index := idx) np hts (cz_good y2) rfl rfl rfl (by rw [y1]; exact hts _ y3) (hts _ hlk) y4 ⟨hrm.1, hrm.2⟩
  have hg := cz_getO (g := g) (N := N) (I := I) (R := R) (L := L) hR.2.2.2 hk hci
  have hre := va_recv hC.2.2.2.2.2.2.2.2.1.1 hR.1 (cz_cls hci).1 hg
  rw [cz_stk, List.map_cons]
  exact cz_after hC hR hS hl (va_runV (C := cz_on ci) (b := cz_al g k) (As := as.map (cz_rn g)) ⟨hC.1, hC.2.1, hC.2.2.1, hC.2.2.2.1, hts⟩ (hCon g H.size) ⟨hcb, hts _ hin, hts _ hse⟩ ⟨cz_Pc_blind, hre, cz_pre (as := .ref k :: as) hC hR⟩ rfl (by rw [List.length_map]; exact hnp) hl.1 rfl (cz_rest g hst) hd ⟨hn, hw⟩) kk
theorem tr_callS {M' : cz_M} {as : List Value} {ci np idx : Nat} (hd : decode (cz_cc M) pc = .ok (.invokestatic idx, 3)) (hlk : Cond.methodLink (cz_on M.1) idx (cz_nm M') ∈ cz_T) (hin : Cond.static (cz_nm M') ∈ cz_T) (hmy : cz_my M' ci np) (hrm : cz_room M M') (hnp : as.length = np) (hst : (st.map fun v => v.category).sum ≤ 8) (hn : n + (cz_rm M').cells ≤ (cz_rm M).cells) (hw : w + (cz_rm M').slots ≤ (cz_rm M).slots)
    (hCon : Con X.2.1 M' as cn K N I R L Q) (kk : ∀ r cn' K' N' I' R' L', Q r cn' K' N' I' R' L' → Tr X M (pc + 3) ls (r.toList ++ st) cn' K' N' I' R' L' (n + (cz_rm M').cells) (w + (cz_rm M').slots)) : Tr X M pc ls (as.reverse ++ st) cn K N I R L n w := by
  obtain ⟨p, l, e, s, m, args, below, meth, c, A, Z, g⟩ := X
  intro hC H locs arr hR hS hl
  have hts := hC.2.2.2.2.1
  obtain ⟨y1, y2, y3, y4⟩ := hmy
  have hcb := callB_of (R := cz_rm M) (own := cz_on M.1) (index := idx) np hts (cz_good y2) rfl rfl rfl (by rw [y1]; exact hts _ y3) (hts _ hlk) y4 ⟨hrm.1, hrm.2⟩
  rw [cz_stk]
  exact cz_after hC hR hS hl (va_runS (As := as.map (cz_rn g)) ⟨hC.1, hC.2.1, hC.2.2.1, hC.2.2.2.1, hts⟩ (hCon g H.size) ⟨hcb, hts _ hin⟩ ⟨cz_Pc_blind, cz_pre (as := as) hC hR⟩ rfl (by rw [List.length_map]; exact hnp) hl.1 rfl (cz_rest g hst) hd ⟨hn, hw⟩) kk
theorem tr_callI {M' : cz_M} {as : List Value} {k ci np idx : Nat} (hd : decode (cz_cc M) pc = .ok (.invokespecial idx, 3)) (hlk : Cond.methodLink (cz_on M.1) idx (cz_nm M') ∈ cz_T) (hin : Cond.instanceMethod (cz_nm M') ∈ cz_T) (hnm : (cz_nm M').name = "<init>") (hrt : cz_rt M' = none) (hmy : cz_my M' ci np) (hrm : cz_room M M') (hnp : as.length = np) (hst : (st.map fun v => v.category).sum ≤ 8) (hn : n + (cz_rm M').cells ≤ (cz_rm M).cells) (hw : w + (cz_rm M').slots ≤ (cz_rm M).slots)
    (hCon : Con X.2.1 M' (.ref k :: as) cn K N I R L Q) (kk : ∀ r cn' K' N' I' R' L', Q r cn' K' N' I' R' L' → Tr X M (pc + 3) ls (r.toList ++ st) cn' K' N' I' R' L' (n + (cz_rm M').cells) (w + (cz_rm M').slots)) : Tr X M pc ls (as.reverse ++ .ref k :: st) cn K N I R L n w := by
  obtain ⟨p, l, e, s, m, args, below, meth, c, A, Z, g⟩ := X
  intro hC H locs arr hR hS hl
  have hts := hC.2.2.2.2.1
  obtain ⟨y1, y2, y3, y4⟩ := hmy
  have hcb := callB_of (R := cz_rm M) (own := cz_on M.1) (index := idx) np hts (cz_good y2) rfl rfl rfl (by rw [y1]; exact hts _ y3) (hts _ hlk) y4 ⟨hrm.1, hrm.2⟩
  rw [hrt] at hcb
  rw [cz_stk, List.map_cons]
  exact cz_after hC hR hS hl (va_runI (b := cz_al g k) (As := as.map (cz_rn g)) ⟨hC.1, hC.2.1, hC.2.2.1, hC.2.2.2.1, hts⟩ (hCon g H.size) ⟨hcb, hnm, hts _ hin⟩ ⟨cz_Pc_blind, cz_pre (as := .ref k :: as) hC hR⟩ rfl (by rw [List.length_map]; exact hnp) hl.1 rfl (cz_rest g hst) hd ⟨hn, hw⟩) kk
theorem tr_callSN {M' : cz_M} {as : List Value} {ci np idx : Nat} {host : String} (hd : decode (cz_cc M) pc = .ok (.invokestatic idx, 3)) (hlk : (cz_on M.1, idx, cz_nm M', host) ∈ cz_NM) (hin : Cond.static (cz_nm M') ∈ cz_T) (hmy : cz_my M' ci np) (hrm : cz_room M M') (hnp : as.length = np) (hst : (st.map fun v => v.category).sum ≤ 8) (hn : n + (cz_rm M').cells ≤ (cz_rm M).cells) (hw : w + (cz_rm M').slots ≤ (cz_rm M).slots)
    (hCon : Con X.2.1 M' as cn K N I R L Q) (kk : ∀ r cn' K' N' I' R' L', Q r cn' K' N' I' R' L' → Tr X M (pc + 3) ls (r.toList ++ st) cn' K' N' I' R' L' (n + (cz_rm M').cells) (w + (cz_rm M').slots)) : Tr X M pc ls (as.reverse ++ st) cn K N I R L n w := by
  obtain ⟨p, l, e, s, m, args, below, meth, c, A, Z, g⟩ := X
  intro hC H locs arr hR hS hl
  have hts := hC.2.2.2.2.1
  have hKK : cz_K g s := hC.2.2.2.2.2.2.2.2.1
  obtain ⟨y1, y2, y3, y4⟩ := hmy
  have hcb := va_cnB (R := cz_rm M) (own := cz_on M.1) (host := host) (index := idx) np hts (cz_good y2) rfl rfl rfl (hKK.2.2.1 (cz_on M.1, idx, cz_nm M', host) hlk) (by rw [y1]; exact hts _ y3) y4 ⟨hrm.1, hrm.2⟩
  rw [cz_stk]
  exact cz_after hC hR hS hl (va_runSN (As := as.map (cz_rn g)) ⟨hC.1, hC.2.1, hC.2.2.1, hC.2.2.2.1, hts⟩ (hCon g H.size) ⟨hcb, hts _ hin, trivial⟩ ⟨cz_Pc_blind, cz_pre (as := as) hC hR⟩ rfl (by rw [List.length_map]; exact hnp) hl.1 rfl (cz_rest g hst) hd ⟨hn, hw⟩) kk
theorem tr_callVN {M' : cz_M} {as : List Value} {k ci np idx : Nat} {host : String} (hd : decode (cz_cc M) pc = .ok (.invokevirtual idx, 3)) (hlk : (cz_on M.1, idx, cz_nm M', host) ∈ cz_NM) (hin : Cond.instanceMethod (cz_nm M') ∈ cz_T) (hse : Cond.selects (cz_on ci) (cz_nm M') (cz_nm M') ∈ cz_T) (hmy : cz_my M' ci np) (hci : ci < 13) (hrm : cz_room M M') (hnp : as.length = np) (hk : K k = ci) (hst : (st.map fun v => v.category).sum ≤ 8) (hn : n + (cz_rm M').cells ≤ (cz_rm M).cells) (hw : w + (cz_rm M').slots ≤ (cz_rm M).slots)
    (hCon : Con X.2.1 M' (.ref k :: as) cn K N I R L Q) (kk : ∀ r cn' K' N' I' R' L', Q r cn' K' N' I' R' L' → Tr X M (pc + 3) ls (r.toList ++ st) cn' K' N' I' R' L' (n + (cz_rm M').cells) (w + (cz_rm M').slots)) : Tr X M pc ls (as.reverse ++ .ref k :: st) cn K N I R L n w := by
  obtain ⟨p, l, e, s, m, args, below, meth, c, A, Z, g⟩ := X
  intro hC H locs arr hR hS hl
  have hts := hC.2.2.2.2.1
  have hKK : cz_K g s := hC.2.2.2.2.2.2.2.2.1
  obtain ⟨y1, y2, y3, y4⟩ := hmy
  have hcb := va_cnB (R := cz_rm M) (own := cz_on M.1) (host := host) (index := idx) np hts (cz_good y2) rfl rfl rfl (hKK.2.2.1 (cz_on M.1, idx, cz_nm M', host) hlk) (by rw [y1]; exact hts _ y3) y4 ⟨hrm.1, hrm.2⟩
  have hg := cz_getO (g := g) (N := N) (I := I) (R := R) (L := L) hR.2.2.2 hk hci
  have hre := va_recv hKK.1 hR.1 (cz_cls hci).1 hg
  rw [cz_stk, List.map_cons]
  exact cz_after hC hR hS hl (va_runVN (C := cz_on ci) (b := cz_al g k) (As := as.map (cz_rn g)) ⟨hC.1, hC.2.1, hC.2.2.1, hC.2.2.2.1, hts⟩ (hCon g H.size) ⟨hcb, hts _ hin, hts _ hse⟩ ⟨cz_Pc_blind, hre, cz_pre (as := .ref k :: as) hC hR⟩ rfl (by rw [List.length_map]; exact hnp) hl.1 rfl (cz_rest g hst) hd ⟨hn, hw⟩) kk
theorem tr_callIN {M' : cz_M} {as : List Value} {k ci np idx : Nat} {host : String} (hd : decode (cz_cc M) pc = .ok (.invokespecial idx, 3)) (hlk : (cz_on M.1, idx, cz_nm M', host) ∈ cz_NM) (hin : Cond.instanceMethod (cz_nm M') ∈ cz_T) (hnm : (cz_nm M').name = "<init>") (hrt : cz_rt M' = none) (hmy : cz_my M' ci np) (hrm : cz_room M M') (hnp : as.length = np) (hst : (st.map fun v => v.category).sum ≤ 8) (hn : n + (cz_rm M').cells ≤ (cz_rm M).cells) (hw : w + (cz_rm M').slots ≤ (cz_rm M).slots)
    (hCon : Con X.2.1 M' (.ref k :: as) cn K N I R L Q) (kk : ∀ r cn' K' N' I' R' L', Q r cn' K' N' I' R' L' → Tr X M (pc + 3) ls (r.toList ++ st) cn' K' N' I' R' L' (n + (cz_rm M').cells) (w + (cz_rm M').slots)) : Tr X M pc ls (as.reverse ++ .ref k :: st) cn K N I R L n w := by
  obtain ⟨p, l, e, s, m, args, below, meth, c, A, Z, g⟩ := X
  intro hC H locs arr hR hS hl
  have hts := hC.2.2.2.2.1
  have hKK : cz_K g s := hC.2.2.2.2.2.2.2.2.1
  obtain ⟨y1, y2, y3, y4⟩ := hmy
  have hcb := va_cnB (R := cz_rm M) (own := cz_on M.1) (host := host) (index := idx) np hts (cz_good y2) rfl rfl rfl (hKK.2.2.1 (cz_on M.1, idx, cz_nm M', host) hlk) (by rw [y1]; exact hts _ y3) y4 ⟨hrm.1, hrm.2⟩
  rw [hrt] at hcb
  rw [cz_stk, List.map_cons]
  exact cz_after hC hR hS hl (va_runIN (b := cz_al g k) (As := as.map (cz_rn g)) ⟨hC.1, hC.2.1, hC.2.2.1, hC.2.2.2.1, hts⟩ (hCon g H.size) ⟨hcb, hnm, hts _ hin⟩ ⟨cz_Pc_blind, cz_pre (as := .ref k :: as) hC hR⟩ rfl (by rw [List.length_map]; exact hnp) hl.1 rfl (cz_rest g hst) hd ⟨hn, hw⟩) kk
end CzCalls
end
section
/-! ===== the methods: records, words ===== -/
def mX0_init : cz_M := (0, cX0_init, 2, { frames := 2, cells := 41, slots := 202, locals := 32 }, yX0_init, none, [])
def mX0_clear : cz_M := (0, cX0_clear, 1, { frames := 0, cells := 0, slots := 0, locals := 0 }, yX0_clear, none, [])
def mX0_cheesesIn : cz_M := (0, cX0_cheesesIn, 4, { frames := 1, cells := 0, slots := 0, locals := 21 }, yX0_cheesesIn, some .int, [])
def mX0_costOf : cz_M := (0, cX0_costOf, 4, { frames := 1, cells := 0, slots := 0, locals := 21 }, yX0_costOf, some .int, [])
def mX1_init : cz_M := (1, cX1_init, 1, { frames := 1, cells := 0, slots := 0, locals := 12 }, yX1_init, none, [])
def mX2_init : cz_M := (2, cX2_init, 1, { frames := 1, cells := 0, slots := 0, locals := 12 }, yX2_init, none, [])
def mX3_init : cz_M := (3, cX3_init, 1, { frames := 1, cells := 2, slots := 12, locals := 12 }, yX3_init, none, [])
def mX3_clear : cz_M := (3, cX3_clear, 1, { frames := 0, cells := 0, slots := 0, locals := 0 }, yX3_clear, none, [])
def mX3_become : cz_M := (3, cX3_become, 3, { frames := 0, cells := 0, slots := 0, locals := 0 }, yX3_become, none, [])
def mX3_add : cz_M := (3, cX3_add, 3, { frames := 0, cells := 0, slots := 0, locals := 0 }, yX3_add, none, [])
def mX3_addDrawn : cz_M := (3, cX3_addDrawn, 4, { frames := 1, cells := 0, slots := 0, locals := 22 }, yX3_addDrawn, some .int, [])
def mX3_drawBelow : cz_M := (3, cX3_drawBelow, 2, { frames := 0, cells := 0, slots := 0, locals := 0 }, yX3_drawBelow, some .int, [])
def mX4_init : cz_M := (4, cX4_init, 1, { frames := 1, cells := 1, slots := 8, locals := 12 }, yX4_init, none, [])
def mX4_holds : cz_M := (4, cX4_holds, 3, { frames := 0, cells := 0, slots := 0, locals := 0 }, yX4_holds, some .boolean, [])
def mX5_init : cz_M := (5, cX5_init, 3, { frames := 1, cells := 9, slots := 292, locals := 12 }, yX5_init, none, [])
def mX5_play : cz_M := (5, cX5_play, 9, { frames := 4, cells := 0, slots := 0, locals := 93 }, yX5_play, none, [])
def mX5_forget : cz_M := (5, cX5_forget, 1, { frames := 1, cells := 0, slots := 0, locals := 23 }, yX5_forget, none, [])
def mX5_turnAll : cz_M := (5, cX5_turnAll, 6, { frames := 3, cells := 0, slots := 0, locals := 68 }, yX5_turnAll, some .int, [])
def mX5_turnSome : cz_M := (5, cX5_turnSome, 9, { frames := 1, cells := 0, slots := 0, locals := 21 }, yX5_turnSome, some .int, [])
def mX5_judge : cz_M := (5, cX5_judge, 9, { frames := 1, cells := 0, slots := 0, locals := 21 }, yX5_judge, none, [])
def mX5_isAwake : cz_M := (5, cX5_isAwake, 4, { frames := 2, cells := 0, slots := 0, locals := 45 }, yX5_isAwake, some .boolean, [])
def mX5_isCalled : cz_M := (5, cX5_isCalled, 5, { frames := 1, cells := 0, slots := 0, locals := 21 }, yX5_isCalled, some .boolean, [])
def mX5_noticedHuts : cz_M := (5, cX5_noticedHuts, 3, { frames := 1, cells := 0, slots := 0, locals := 22 }, yX5_noticedHuts, some .int, [])
def mX5_minutesAwake : cz_M := (5, cX5_minutesAwake, 4, { frames := 3, cells := 0, slots := 0, locals := 68 }, yX5_minutesAwake, some .int, [])
def mX5_turnerOf : cz_M := (5, cX5_turnerOf, 4, { frames := 0, cells := 0, slots := 0, locals := 0 }, yX5_turnerOf, some .int, [])
def mX5_isTurned : cz_M := (5, cX5_isTurned, 3, { frames := 1, cells := 0, slots := 0, locals := 23 }, yX5_isTurned, some .boolean, [])
def mX5_liesUp : cz_M := (5, cX5_liesUp, 5, { frames := 2, cells := 0, slots := 0, locals := 45 }, yX5_liesUp, some .boolean, [])
def mX5_minuteOfVein : cz_M := (5, cX5_minuteOfVein, 5, { frames := 2, cells := 0, slots := 0, locals := 45 }, yX5_minuteOfVein, some .int, [])
def mX5_cheesesWithVeins : cz_M := (5, cX5_cheesesWithVeins, 4, { frames := 3, cells := 0, slots := 0, locals := 68 }, yX5_cheesesWithVeins, some .int, [])
def mX5_hasJustVeins : cz_M := (5, cX5_hasJustVeins, 4, { frames := 2, cells := 0, slots := 0, locals := 45 }, yX5_hasJustVeins, some .boolean, [])
def mX5_missesAny : cz_M := (5, cX5_missesAny, 2, { frames := 0, cells := 0, slots := 0, locals := 0 }, yX5_missesAny, some .boolean, [])
def mX5_price : cz_M := (5, cX5_price, 4, { frames := 1, cells := 0, slots := 0, locals := 21 }, yX5_price, some .int, [])
def mX5_sum : cz_M := (5, cX5_sum, 3, { frames := 2, cells := 0, slots := 0, locals := 44 }, yX5_sum, some .int, [])
def mX6_init : cz_M := (6, cX6_init, 2, { frames := 2, cells := 47, slots := 270, locals := 32 }, yX6_init, none, [])
def mX6_clear : cz_M := (6, cX6_clear, 1, { frames := 0, cells := 0, slots := 0, locals := 0 }, yX6_clear, none, [])
def mX6_keepAct : cz_M := (6, cX6_keepAct, 2, { frames := 1, cells := 0, slots := 0, locals := 22 }, yX6_keepAct, none, [])
def mX6_dropOldestAct : cz_M := (6, cX6_dropOldestAct, 3, { frames := 0, cells := 0, slots := 0, locals := 0 }, yX6_dropOldestAct, none, [])
def mX6_takeBack : cz_M := (6, cX6_takeBack, 2, { frames := 1, cells := 0, slots := 0, locals := 22 }, yX6_takeBack, some .boolean, [])
def mX6_keepMark : cz_M := (6, cX6_keepMark, 2, { frames := 1, cells := 0, slots := 0, locals := 22 }, yX6_keepMark, some .int, [])
def mX6_goBack : cz_M := (6, cX6_goBack, 3, { frames := 1, cells := 0, slots := 0, locals := 22 }, yX6_goBack, some .boolean, [])
def mX7_init : cz_M := (7, cX7_init, 3, { frames := 1, cells := 2, slots := 13, locals := 12 }, yX7_init, none, [])
def mX7_readAll : cz_M := (7, cX7_readAll, 4, { frames := 11, cells := 0, slots := 0, locals := 234 }, yX7_readAll, some .boolean, [])
def mX7_fail : cz_M := (7, cX7_fail, 2, { frames := 0, cells := 0, slots := 0, locals := 0 }, yX7_fail, some .boolean, [])
def mX7_step : cz_M := (7, cX7_step, 2, { frames := 1, cells := 0, slots := 0, locals := 20 }, yX7_step, none, [])
def mX7_stepWord : cz_M := (7, cX7_stepWord, 1, { frames := 0, cells := 0, slots := 0, locals := 0 }, yX7_stepWord, some .int, [])
def mX7_stepWhole : cz_M := (7, cX7_stepWhole, 1, { frames := 0, cells := 0, slots := 0, locals := 0 }, yX7_stepWhole, some .int, [])
def mX7_packed : cz_M := (7, cX7_packed, 4, { frames := 5, cells := 0, slots := 0, locals := 106 }, yX7_packed, some .long, [1])
def mX7_seesWord : cz_M := (7, cX7_seesWord, 2, { frames := 6, cells := 0, slots := 0, locals := 129 }, yX7_seesWord, some .boolean, [])
def mX7_takeWord : cz_M := (7, cX7_takeWord, 2, { frames := 7, cells := 0, slots := 0, locals := 150 }, yX7_takeWord, some .boolean, [])
def mX7_seesWhole : cz_M := (7, cX7_seesWhole, 3, { frames := 1, cells := 0, slots := 0, locals := 21 }, yX7_seesWhole, some .boolean, [])
def mX7_takeWhole : cz_M := (7, cX7_takeWhole, 3, { frames := 2, cells := 0, slots := 0, locals := 43 }, yX7_takeWhole, some .boolean, [])
def mX7_takeComma : cz_M := (7, cX7_takeComma, 1, { frames := 2, cells := 0, slots := 0, locals := 41 }, yX7_takeComma, some .boolean, [])
def mX7_takeHut : cz_M := (7, cX7_takeHut, 1, { frames := 3, cells := 0, slots := 0, locals := 65 }, yX7_takeHut, some .boolean, [])
def mX7_takeSpan : cz_M := (7, cX7_takeSpan, 1, { frames := 8, cells := 0, slots := 0, locals := 171 }, yX7_takeSpan, some .boolean, [])
def mX7_lineWord : cz_M := (7, cX7_lineWord, 1, { frames := 0, cells := 0, slots := 0, locals := 0 }, yX7_lineWord, some (.object "java/lang/String"), [])
def mX7_sortOfWord : cz_M := (7, cX7_sortOfWord, 2, { frames := 6, cells := 0, slots := 0, locals := 129 }, yX7_sortOfWord, some .int, [])
def mX7_isToldAgain : cz_M := (7, cX7_isToldAgain, 2, { frames := 0, cells := 0, slots := 0, locals := 0 }, yX7_isToldAgain, some .boolean, [])
def mX7_isFull : cz_M := (7, cX7_isFull, 2, { frames := 0, cells := 0, slots := 0, locals := 0 }, yX7_isFull, some .boolean, [])
def mX7_readLine : cz_M := (7, cX7_readLine, 2, { frames := 10, cells := 0, slots := 0, locals := 213 }, yX7_readLine, some .boolean, [])
def mX7_readAlp : cz_M := (7, cX7_readAlp, 2, { frames := 8, cells := 0, slots := 0, locals := 171 }, yX7_readAlp, some .boolean, [])
def mX7_readEvent : cz_M := (7, cX7_readEvent, 3, { frames := 9, cells := 0, slots := 0, locals := 191 }, yX7_readEvent, some .boolean, [])
def mX7_readCheese : cz_M := (7, cX7_readCheese, 2, { frames := 9, cells := 0, slots := 0, locals := 190 }, yX7_readCheese, some .boolean, [])
def mX7_readTurner : cz_M := (7, cX7_readTurner, 2, { frames := 9, cells := 0, slots := 0, locals := 191 }, yX7_readTurner, some .boolean, [])
def mX7_turnerKind : cz_M := (7, cX7_turnerKind, 1, { frames := 7, cells := 0, slots := 0, locals := 150 }, yX7_turnerKind, some .int, [])
def mX7_readHuts : cz_M := (7, cX7_readHuts, 3, { frames := 2, cells := 0, slots := 0, locals := 43 }, yX7_readHuts, some .boolean, [])
def mX7_readCall : cz_M := (7, cX7_readCall, 3, { frames := 8, cells := 0, slots := 0, locals := 171 }, yX7_readCall, some .boolean, [])
def mX7_readMinutes : cz_M := (7, cX7_readMinutes, 4, { frames := 2, cells := 0, slots := 0, locals := 43 }, yX7_readMinutes, some .boolean, [])
def mX7_seesName : cz_M := (7, cX7_seesName, 1, { frames := 7, cells := 0, slots := 0, locals := 150 }, yX7_seesName, some .boolean, [])
def mX7_seesNewName : cz_M := (7, cX7_seesNewName, 1, { frames := 8, cells := 0, slots := 0, locals := 170 }, yX7_seesNewName, some .boolean, [])
def mX7_isToldCheese : cz_M := (7, cX7_isToldCheese, 2, { frames := 0, cells := 0, slots := 0, locals := 0 }, yX7_isToldCheese, some .boolean, [])
def mX7_namedTurner : cz_M := (7, cX7_namedTurner, 2, { frames := 0, cells := 0, slots := 0, locals := 0 }, yX7_namedTurner, some .int, [])
def mX8_init : cz_M := (8, cX8_init, 1, { frames := 1, cells := 9, slots := 2160, locals := 12 }, yX8_init, none, [])
def mX8_build : cz_M := (8, cX8_build, 5, { frames := 2, cells := 0, slots := 0, locals := 44 }, yX8_build, none, [])
def mX8_wipe : cz_M := (8, cX8_wipe, 2, { frames := 0, cells := 0, slots := 0, locals := 0 }, yX8_wipe, none, [])
def mX8_layCloud : cz_M := (8, cX8_layCloud, 4, { frames := 0, cells := 0, slots := 0, locals := 0 }, yX8_layCloud, none, [])
def mX8_layEvent : cz_M := (8, cX8_layEvent, 3, { frames := 0, cells := 0, slots := 0, locals := 0 }, yX8_layEvent, none, [])
def mX8_findLight : cz_M := (8, cX8_findLight, 2, { frames := 1, cells := 0, slots := 0, locals := 21 }, yX8_findLight, none, [])
def mX8_findStirs : cz_M := (8, cX8_findStirs, 3, { frames := 1, cells := 0, slots := 0, locals := 22 }, yX8_findStirs, none, [])
def mX8_isBright : cz_M := (8, cX8_isBright, 2, { frames := 0, cells := 0, slots := 0, locals := 0 }, yX8_isBright, some .boolean, [])
def mX8_crackingHuts : cz_M := (8, cX8_crackingHuts, 2, { frames := 0, cells := 0, slots := 0, locals := 0 }, yX8_crackingHuts, some .int, [])
def mX9_init : cz_M := (9, cX9_init, 1, { frames := 1, cells := 0, slots := 0, locals := 12 }, yX9_init, none, [])
def mX10_init : cz_M := (10, cX10_init, 1, { frames := 3, cells := 182, slots := 6624, locals := 53 }, yX10_init, none, [])
def mX10_feed : cz_M := (10, cX10_feed, 6, { frames := 1, cells := 0, slots := 0, locals := 22 }, yX10_feed, some .int, [])
def mX10_alp : cz_M := (10, cX10_alp, 4, { frames := 12, cells := 0, slots := 0, locals := 257 }, yX10_alp, some .int, [])
def mX10_fault : cz_M := (10, cX10_fault, 1, { frames := 0, cells := 0, slots := 0, locals := 0 }, yX10_fault, some .int, [])
def mX10_where : cz_M := (10, cX10_where, 1, { frames := 0, cells := 0, slots := 0, locals := 0 }, yX10_where, some .int, [])
def mX10_sky : cz_M := (10, cX10_sky, 2, { frames := 4, cells := 0, slots := 0, locals := 88 }, yX10_sky, some .int, [])
def mX10_light : cz_M := (10, cX10_light, 6, { frames := 4, cells := 0, slots := 0, locals := 88 }, yX10_light, some .int, [])
def mX10_changes : cz_M := (10, cX10_changes, 7, { frames := 4, cells := 0, slots := 0, locals := 88 }, yX10_changes, some .int, [])
def mX10_change : cz_M := (10, cX10_change, 6, { frames := 4, cells := 0, slots := 0, locals := 88 }, yX10_change, some .int, [])
def mX10_peak : cz_M := (10, cX10_peak, 6, { frames := 4, cells := 0, slots := 0, locals := 88 }, yX10_peak, some .int, [])
def mX10_due : cz_M := (10, cX10_due, 2, { frames := 4, cells := 0, slots := 0, locals := 88 }, yX10_due, some .int, [])
def mX10_awake : cz_M := (10, cX10_awake, 3, { frames := 6, cells := 0, slots := 0, locals := 141 }, yX10_awake, some .int, [])
def mX10_notices : cz_M := (10, cX10_notices, 4, { frames := 6, cells := 0, slots := 0, locals := 141 }, yX10_notices, some .int, [])
def mX10_work : cz_M := (10, cX10_work, 4, { frames := 6, cells := 0, slots := 0, locals := 141 }, yX10_work, some .int, [])
def mX10_worth : cz_M := (10, cX10_worth, 2, { frames := 6, cells := 0, slots := 0, locals := 141 }, yX10_worth, some .int, [])
def mX10_turned : cz_M := (10, cX10_turned, 3, { frames := 6, cells := 0, slots := 0, locals := 141 }, yX10_turned, some .int, [])
def mX10_up : cz_M := (10, cX10_up, 3, { frames := 6, cells := 0, slots := 0, locals := 141 }, yX10_up, some .int, [])
def mX10_cheese : cz_M := (10, cX10_cheese, 4, { frames := 6, cells := 0, slots := 0, locals := 141 }, yX10_cheese, some .int, [])
def mX10_vein : cz_M := (10, cX10_vein, 4, { frames := 7, cells := 0, slots := 0, locals := 163 }, yX10_vein, some .int, [])
def mX10_cause : cz_M := (10, cX10_cause, 5, { frames := 7, cells := 0, slots := 0, locals := 163 }, yX10_cause, some .int, [])
def mX10_total : cz_M := (10, cX10_total, 1, { frames := 6, cells := 0, slots := 0, locals := 141 }, yX10_total, some .int, [])
def mX10_without : cz_M := (10, cX10_without, 2, { frames := 6, cells := 0, slots := 0, locals := 141 }, yX10_without, some .int, [])
def mX10_wake : cz_M := (10, cX10_wake, 1, { frames := 6, cells := 0, slots := 0, locals := 146 }, yX10_wake, some .int, [])
def mX10_wakeTotal : cz_M := (10, cX10_wakeTotal, 1, { frames := 6, cells := 0, slots := 0, locals := 146 }, yX10_wakeTotal, some .int, [])
def mX10_fewest : cz_M := (10, cX10_fewest, 2, { frames := 7, cells := 0, slots := 0, locals := 163 }, yX10_fewest, some .int, [])
def mX10_fewestBy : cz_M := (10, cX10_fewestBy, 1, { frames := 7, cells := 0, slots := 0, locals := 163 }, yX10_fewestBy, some .int, [])
def mX10_fits : cz_M := (10, cX10_fits, 2, { frames := 6, cells := 0, slots := 0, locals := 141 }, yX10_fits, some .int, [])
def mX10_by : cz_M := (10, cX10_by, 4, { frames := 5, cells := 0, slots := 0, locals := 121 }, yX10_by, some .int, [])
def mX10_nights : cz_M := (10, cX10_nights, 7, { frames := 5, cells := 0, slots := 0, locals := 121 }, yX10_nights, some .int, [])
def mX10_call : cz_M := (10, cX10_call, 3, { frames := 2, cells := 0, slots := 0, locals := 43 }, yX10_call, some .boolean, [])
def mX10_calls : cz_M := (10, cX10_calls, 1, { frames := 1, cells := 0, slots := 0, locals := 21 }, yX10_calls, some .int, [])
def mX10_cloud : cz_M := (10, cX10_cloud, 3, { frames := 2, cells := 0, slots := 0, locals := 43 }, yX10_cloud, some .boolean, [])
def mX10_draw : cz_M := (10, cX10_draw, 2, { frames := 2, cells := 0, slots := 0, locals := 45 }, yX10_draw, some .int, [])
def mX10_lift : cz_M := (10, cX10_lift, 1, { frames := 2, cells := 0, slots := 0, locals := 43 }, yX10_lift, some .boolean, [])
def mX10_seed : cz_M := (10, cX10_seed, 2, { frames := 1, cells := 0, slots := 0, locals := 21 }, yX10_seed, some .boolean, [])
def mX10_undo : cz_M := (10, cX10_undo, 1, { frames := 2, cells := 0, slots := 0, locals := 43 }, yX10_undo, some .boolean, [])
def mX10_mark : cz_M := (10, cX10_mark, 2, { frames := 2, cells := 0, slots := 0, locals := 43 }, yX10_mark, some .int, [])
def mX10_back : cz_M := (10, cX10_back, 2, { frames := 2, cells := 0, slots := 0, locals := 44 }, yX10_back, some .boolean, [])
def mX10_event : cz_M := (10, cX10_event, 4, { frames := 2, cells := 0, slots := 0, locals := 41 }, yX10_event, some .int, [])
def mX10_led : cz_M := (10, cX10_led, 5, { frames := 6, cells := 1, slots := 6, locals := 141 }, yX10_led, some .int, [])
def mX10_size : cz_M := (10, cX10_size, 2, { frames := 0, cells := 0, slots := 0, locals := 0 }, yX10_size, some .int, [])
def mX10_trouble : cz_M := (10, cX10_trouble, 1, { frames := 0, cells := 0, slots := 0, locals := 0 }, yX10_trouble, some .int, [])
def mX10_answered : cz_M := (10, cX10_answered, 2, { frames := 0, cells := 0, slots := 0, locals := 0 }, yX10_answered, some .int, [])
def mX10_allowed : cz_M := (10, cX10_allowed, 1, { frames := 0, cells := 0, slots := 0, locals := 0 }, yX10_allowed, some .boolean, [])
def mX10_refused : cz_M := (10, cX10_refused, 2, { frames := 0, cells := 0, slots := 0, locals := 0 }, yX10_refused, some .int, [])
def mX10_refusedTotal : cz_M := (10, cX10_refusedTotal, 2, { frames := 0, cells := 0, slots := 0, locals := 0 }, yX10_refusedTotal, some .int, [])
def mX10_refusedAct : cz_M := (10, cX10_refusedAct, 2, { frames := 0, cells := 0, slots := 0, locals := 0 }, yX10_refusedAct, some .boolean, [])
def mX10_isMinute : cz_M := (10, cX10_isMinute, 2, { frames := 0, cells := 0, slots := 0, locals := 0 }, yX10_isMinute, some .boolean, [])
def mX10_isHut : cz_M := (10, cX10_isHut, 2, { frames := 0, cells := 0, slots := 0, locals := 0 }, yX10_isHut, some .boolean, [])
def mX10_isTurner : cz_M := (10, cX10_isTurner, 2, { frames := 0, cells := 0, slots := 0, locals := 0 }, yX10_isTurner, some .boolean, [])
def mX10_isCheese : cz_M := (10, cX10_isCheese, 2, { frames := 0, cells := 0, slots := 0, locals := 0 }, yX10_isCheese, some .boolean, [])
def mX10_isSlice : cz_M := (10, cX10_isSlice, 2, { frames := 0, cells := 0, slots := 0, locals := 0 }, yX10_isSlice, some .boolean, [])
def mX10_isEvent : cz_M := (10, cX10_isEvent, 2, { frames := 1, cells := 0, slots := 0, locals := 20 }, yX10_isEvent, some .boolean, [])
def mX10_isSeed : cz_M := (10, cX10_isSeed, 1, { frames := 0, cells := 0, slots := 0, locals := 0 }, yX10_isSeed, some .boolean, [])
def mX10_bit : cz_M := (10, cX10_bit, 2, { frames := 0, cells := 0, slots := 0, locals := 0 }, yX10_bit, some .int, [])
def mX10_putBytes : cz_M := (10, cX10_putBytes, 3, { frames := 0, cells := 0, slots := 0, locals := 0 }, yX10_putBytes, none, [])
def mX10_cloudsMoved : cz_M := (10, cX10_cloudsMoved, 1, { frames := 0, cells := 0, slots := 0, locals := 0 }, yX10_cloudsMoved, none, [])
def mX10_presentSky : cz_M := (10, cX10_presentSky, 1, { frames := 3, cells := 0, slots := 0, locals := 68 }, yX10_presentSky, some (.object "EclipseCheese$Sky"), [])
def mX10_presentNight : cz_M := (10, cX10_presentNight, 1, { frames := 5, cells := 0, slots := 0, locals := 121 }, yX10_presentNight, some (.object "EclipseCheese$Night"), [])
def mX10_allTurners : cz_M := (10, cX10_allTurners, 1, { frames := 0, cells := 0, slots := 0, locals := 0 }, yX10_allTurners, some .int, [])
def mX10_allCalls : cz_M := (10, cX10_allCalls, 1, { frames := 0, cells := 0, slots := 0, locals := 0 }, yX10_allCalls, some .int, [])
def mX10_eventCount : cz_M := (10, cX10_eventCount, 1, { frames := 0, cells := 0, slots := 0, locals := 0 }, yX10_eventCount, some .int, [])
def mX10_eventFrom : cz_M := (10, cX10_eventFrom, 2, { frames := 0, cells := 0, slots := 0, locals := 0 }, yX10_eventFrom, some .int, [])
def mX10_eventTo : cz_M := (10, cX10_eventTo, 2, { frames := 0, cells := 0, slots := 0, locals := 0 }, yX10_eventTo, some .int, [])
def mX10_veinMinute : cz_M := (10, cX10_veinMinute, 3, { frames := 6, cells := 0, slots := 0, locals := 141 }, yX10_veinMinute, some .int, [])
def mX10_bestCalls : cz_M := (10, cX10_bestCalls, 6, { frames := 5, cells := 0, slots := 0, locals := 121 }, yX10_bestCalls, some .int, [])
def mX10_fewestTurners : cz_M := (10, cX10_fewestTurners, 3, { frames := 6, cells := 0, slots := 0, locals := 141 }, yX10_fewestTurners, some .int, [])
def mX11_init : cz_M := (11, cX11_init, 1, { frames := 1, cells := 23, slots := 214, locals := 12 }, yX11_init, none, [])
def mX11_find : cz_M := (11, cX11_find, 4, { frames := 0, cells := 0, slots := 0, locals := 0 }, yX11_find, some .int, [1])
def mX12_init : cz_M := (12, cX12_init, 1, { frames := 1, cells := 18, slots := 8632, locals := 12 }, yX12_init, none, [])
def mX12_thrown : cz_M := (12, cX12_thrown, 1, { frames := 0, cells := 0, slots := 0, locals := 0 }, yX12_thrown, some .int, [])
def mX12_refused : cz_M := (12, cX12_refused, 2, { frames := 0, cells := 0, slots := 0, locals := 0 }, yX12_refused, some .int, [])
def mX12_lost : cz_M := (12, cX12_lost, 2, { frames := 1, cells := 0, slots := 0, locals := 21 }, yX12_lost, some .int, [])
def mX12_denied : cz_M := (12, cX12_denied, 2, { frames := 1, cells := 0, slots := 0, locals := 21 }, yX12_denied, some .boolean, [])
def mX12_good : cz_M := (12, cX12_good, 2, { frames := 0, cells := 0, slots := 0, locals := 0 }, yX12_good, some .int, [])
def mX12_granted : cz_M := (12, cX12_granted, 1, { frames := 1, cells := 0, slots := 0, locals := 21 }, yX12_granted, some .boolean, [])
def mX12_in : cz_M := (12, cX12_in, 3, { frames := 0, cells := 0, slots := 0, locals := 0 }, yX12_in, some .boolean, [])
def mX12_has : cz_M := (12, cX12_has, 2, { frames := 0, cells := 0, slots := 0, locals := 0 }, yX12_has, some .boolean, [])
def mX12_bits : cz_M := (12, cX12_bits, 3, { frames := 0, cells := 0, slots := 0, locals := 0 }, yX12_bits, some .int, [])
def mX12_byteAt : cz_M := (12, cX12_byteAt, 2, { frames := 0, cells := 0, slots := 0, locals := 0 }, yX12_byteAt, some .int, [])
def mX12_isLetter : cz_M := (12, cX12_isLetter, 1, { frames := 0, cells := 0, slots := 0, locals := 0 }, yX12_isLetter, some .boolean, [])
def mX12_isDigit : cz_M := (12, cX12_isDigit, 1, { frames := 0, cells := 0, slots := 0, locals := 0 }, yX12_isDigit, some .boolean, [])
def mX12_wordOf : cz_M := (12, cX12_wordOf, 4, { frames := 5, cells := 0, slots := 0, locals := 106 }, yX12_wordOf, some .long, [1])
def mX12_goesOn : cz_M := (12, cX12_goesOn, 3, { frames := 1, cells := 0, slots := 0, locals := 21 }, yX12_goesOn, none, [])
def mX12_flaw : cz_M := (12, cX12_flaw, 2, { frames := 0, cells := 0, slots := 0, locals := 0 }, yX12_flaw, none, [])
def mX12_isWord : cz_M := (12, cX12_isWord, 2, { frames := 6, cells := 0, slots := 0, locals := 129 }, yX12_isWord, some .boolean, [])
def mX12_eatsWord : cz_M := (12, cX12_eatsWord, 3, { frames := 7, cells := 0, slots := 0, locals := 150 }, yX12_eatsWord, some .boolean, [])
def mX12_eatsSign : cz_M := (12, cX12_eatsSign, 3, { frames := 2, cells := 0, slots := 0, locals := 43 }, yX12_eatsSign, some .boolean, [])
def mX12_needs : cz_M := (12, cX12_needs, 2, { frames := 7, cells := 0, slots := 0, locals := 150 }, yX12_needs, none, [])
def mX12_needsSign : cz_M := (12, cX12_needsSign, 2, { frames := 2, cells := 0, slots := 0, locals := 43 }, yX12_needsSign, none, [])
def mX12_bounded : cz_M := (12, cX12_bounded, 3, { frames := 1, cells := 0, slots := 0, locals := 22 }, yX12_bounded, some .int, [])
def mX12_readWhole : cz_M := (12, cX12_readWhole, 4, { frames := 2, cells := 0, slots := 0, locals := 44 }, yX12_readWhole, some .int, [])
def mX12_readPart : cz_M := (12, cX12_readPart, 4, { frames := 8, cells := 0, slots := 0, locals := 171 }, yX12_readPart, some .int, [])
def mX12_isName : cz_M := (12, cX12_isName, 1, { frames := 7, cells := 0, slots := 0, locals := 150 }, yX12_isName, some .boolean, [])
def mX12_begins : cz_M := (12, cX12_begins, 3, { frames := 2, cells := 0, slots := 0, locals := 43 }, yX12_begins, none, [])
def mX12_readFresh : cz_M := (12, cX12_readFresh, 3, { frames := 8, cells := 0, slots := 0, locals := 170 }, yX12_readFresh, some .long, [1])
def mX12_names : cz_M := (12, cX12_names, 5, { frames := 0, cells := 0, slots := 0, locals := 0 }, yX12_names, none, [1])
def mX12_readAll : cz_M := (12, cX12_readAll, 2, { frames := 11, cells := 0, slots := 0, locals := 244 }, yX12_readAll, none, [])
def mX12_readLine : cz_M := (12, cX12_readLine, 1, { frames := 10, cells := 0, slots := 0, locals := 224 }, yX12_readLine, none, [])
def mX12_readAlp : cz_M := (12, cX12_readAlp, 4, { frames := 9, cells := 0, slots := 0, locals := 194 }, yX12_readAlp, none, [])
def mX12_readEvent : cz_M := (12, cX12_readEvent, 6, { frames := 9, cells := 0, slots := 0, locals := 194 }, yX12_readEvent, none, [])
def mX12_readCheese : cz_M := (12, cX12_readCheese, 5, { frames := 9, cells := 0, slots := 0, locals := 194 }, yX12_readCheese, none, [1])
def mX12_readRising : cz_M := (12, cX12_readRising, 8, { frames := 3, cells := 0, slots := 0, locals := 65 }, yX12_readRising, some .int, [])
def mX12_readAlmanac : cz_M := (12, cX12_readAlmanac, 2, { frames := 4, cells := 0, slots := 0, locals := 92 }, yX12_readAlmanac, none, [])
def mX12_readTurner : cz_M := (12, cX12_readTurner, 11, { frames := 9, cells := 0, slots := 0, locals := 194 }, yX12_readTurner, none, [1])
def mX12_readCall : cz_M := (12, cX12_readCall, 6, { frames := 9, cells := 0, slots := 0, locals := 194 }, yX12_readCall, none, [])
def mX12_readSlice : cz_M := (12, cX12_readSlice, 2, { frames := 4, cells := 0, slots := 0, locals := 92 }, yX12_readSlice, none, [])
def mX12_feed : cz_M := (12, cX12_feed, 8, { frames := 0, cells := 0, slots := 0, locals := 0 }, yX12_feed, some .int, [])
def mX12_alp : cz_M := (12, cX12_alp, 3, { frames := 12, cells := 24, slots := 247, locals := 265 }, yX12_alp, some .int, [])
def mX12_fault : cz_M := (12, cX12_fault, 1, { frames := 0, cells := 0, slots := 0, locals := 0 }, yX12_fault, some .int, [])
def mX12_where : cz_M := (12, cX12_where, 1, { frames := 0, cells := 0, slots := 0, locals := 0 }, yX12_where, some .int, [])
def mX12_events : cz_M := (12, cX12_events, 1, { frames := 0, cells := 0, slots := 0, locals := 0 }, yX12_events, some .int, [])
def mX12_kindOf : cz_M := (12, cX12_kindOf, 2, { frames := 0, cells := 0, slots := 0, locals := 0 }, yX12_kindOf, some .int, [])
def mX12_hutOf : cz_M := (12, cX12_hutOf, 2, { frames := 0, cells := 0, slots := 0, locals := 0 }, yX12_hutOf, some .int, [])
def mX12_fromOf : cz_M := (12, cX12_fromOf, 2, { frames := 0, cells := 0, slots := 0, locals := 0 }, yX12_fromOf, some .int, [])
def mX12_toOf : cz_M := (12, cX12_toOf, 2, { frames := 0, cells := 0, slots := 0, locals := 0 }, yX12_toOf, some .int, [])
def mX12_laysLight : cz_M := (12, cX12_laysLight, 4, { frames := 2, cells := 0, slots := 0, locals := 43 }, yX12_laysLight, none, [])
def mX12_marksLight : cz_M := (12, cX12_marksLight, 3, { frames := 1, cells := 0, slots := 0, locals := 21 }, yX12_marksLight, none, [])
def mX12_changesIn : cz_M := (12, cX12_changesIn, 3, { frames := 0, cells := 0, slots := 0, locals := 0 }, yX12_changesIn, some .boolean, [])
def mX12_seemsToIn : cz_M := (12, cX12_seemsToIn, 3, { frames := 0, cells := 0, slots := 0, locals := 0 }, yX12_seemsToIn, some .boolean, [])
def mX12_isInAlmanac : cz_M := (12, cX12_isInAlmanac, 3, { frames := 0, cells := 0, slots := 0, locals := 0 }, yX12_isInAlmanac, some .boolean, [])
def mX12_noticesIn : cz_M := (12, cX12_noticesIn, 5, { frames := 1, cells := 0, slots := 0, locals := 22 }, yX12_noticesIn, some .boolean, [])
def mX12_isAwake : cz_M := (12, cX12_isAwake, 5, { frames := 1, cells := 0, slots := 0, locals := 22 }, yX12_isAwake, some .boolean, [])
def mX12_goes : cz_M := (12, cX12_goes, 5, { frames := 3, cells := 0, slots := 0, locals := 71 }, yX12_goes, some .int, [])
def mX12_turns : cz_M := (12, cX12_turns, 6, { frames := 2, cells := 0, slots := 0, locals := 46 }, yX12_turns, none, [])
def mX12_notes : cz_M := (12, cX12_notes, 7, { frames := 1, cells := 0, slots := 0, locals := 22 }, yX12_notes, none, [])
def mX12_priceOf : cz_M := (12, cX12_priceOf, 3, { frames := 0, cells := 0, slots := 0, locals := 0 }, yX12_priceOf, some .int, [])
def mX12_everybody : cz_M := (12, cX12_everybody, 1, { frames := 0, cells := 0, slots := 0, locals := 0 }, yX12_everybody, some .int, [])
def mX12_tonight : cz_M := (12, cX12_tonight, 1, { frames := 4, cells := 0, slots := 0, locals := 95 }, yX12_tonight, some .int, [])
def mX12_isHut : cz_M := (12, cX12_isHut, 2, { frames := 0, cells := 0, slots := 0, locals := 0 }, yX12_isHut, some .boolean, [])
def mX12_isTurner : cz_M := (12, cX12_isTurner, 2, { frames := 0, cells := 0, slots := 0, locals := 0 }, yX12_isTurner, some .boolean, [])
def mX12_isCheese : cz_M := (12, cX12_isCheese, 2, { frames := 0, cells := 0, slots := 0, locals := 0 }, yX12_isCheese, some .boolean, [])
def mX12_isMinute : cz_M := (12, cX12_isMinute, 2, { frames := 1, cells := 0, slots := 0, locals := 22 }, yX12_isMinute, some .boolean, [])
def mX12_sky : cz_M := (12, cX12_sky, 2, { frames := 3, cells := 0, slots := 0, locals := 66 }, yX12_sky, some .int, [])
def mX12_light : cz_M := (12, cX12_light, 4, { frames := 3, cells := 0, slots := 0, locals := 66 }, yX12_light, some .int, [])
def mX12_changes : cz_M := (12, cX12_changes, 5, { frames := 3, cells := 0, slots := 0, locals := 66 }, yX12_changes, some .int, [])
def mX12_change : cz_M := (12, cX12_change, 5, { frames := 3, cells := 0, slots := 0, locals := 66 }, yX12_change, some .int, [])
def mX12_dueIn : cz_M := (12, cX12_dueIn, 4, { frames := 1, cells := 0, slots := 0, locals := 22 }, yX12_dueIn, some .int, [])
def mX12_peak : cz_M := (12, cX12_peak, 3, { frames := 3, cells := 0, slots := 0, locals := 66 }, yX12_peak, some .int, [])
def mX12_due : cz_M := (12, cX12_due, 2, { frames := 3, cells := 0, slots := 0, locals := 66 }, yX12_due, some .int, [])
def mX12_awake : cz_M := (12, cX12_awake, 3, { frames := 3, cells := 0, slots := 0, locals := 66 }, yX12_awake, some .int, [])
def mX12_notices : cz_M := (12, cX12_notices, 4, { frames := 3, cells := 0, slots := 0, locals := 66 }, yX12_notices, some .int, [])
def mX12_work : cz_M := (12, cX12_work, 8, { frames := 5, cells := 0, slots := 0, locals := 115 }, yX12_work, some .int, [])
def mX12_worth : cz_M := (12, cX12_worth, 3, { frames := 5, cells := 0, slots := 0, locals := 115 }, yX12_worth, some .int, [])
def mX12_turned : cz_M := (12, cX12_turned, 3, { frames := 5, cells := 0, slots := 0, locals := 115 }, yX12_turned, some .int, [])
def mX12_up : cz_M := (12, cX12_up, 3, { frames := 5, cells := 0, slots := 0, locals := 115 }, yX12_up, some .int, [])
def mX12_cheese : cz_M := (12, cX12_cheese, 3, { frames := 5, cells := 0, slots := 0, locals := 115 }, yX12_cheese, some .int, [])
def mX12_veinAt : cz_M := (12, cX12_veinAt, 5, { frames := 0, cells := 0, slots := 0, locals := 0 }, yX12_veinAt, some .int, [])
def mX12_vein : cz_M := (12, cX12_vein, 4, { frames := 5, cells := 0, slots := 0, locals := 115 }, yX12_vein, some .int, [])
def mX12_cause : cz_M := (12, cX12_cause, 5, { frames := 5, cells := 0, slots := 0, locals := 115 }, yX12_cause, some .int, [])
def mX12_total : cz_M := (12, cX12_total, 1, { frames := 5, cells := 0, slots := 0, locals := 115 }, yX12_total, some .int, [])
def mX12_isEvent : cz_M := (12, cX12_isEvent, 2, { frames := 1, cells := 0, slots := 0, locals := 20 }, yX12_isEvent, some .boolean, [])
def mX12_without : cz_M := (12, cX12_without, 3, { frames := 5, cells := 0, slots := 0, locals := 115 }, yX12_without, some .int, [])
def mX12_wakeNow : cz_M := (12, cX12_wakeNow, 4, { frames := 4, cells := 0, slots := 0, locals := 95 }, yX12_wakeNow, some .int, [])
def mX12_wake : cz_M := (12, cX12_wake, 1, { frames := 5, cells := 0, slots := 0, locals := 118 }, yX12_wake, some .int, [])
def mX12_wakeTotal : cz_M := (12, cX12_wakeTotal, 1, { frames := 5, cells := 0, slots := 0, locals := 118 }, yX12_wakeTotal, some .int, [])
def mX12_missesNone : cz_M := (12, cX12_missesNone, 3, { frames := 4, cells := 0, slots := 0, locals := 95 }, yX12_missesNone, some .boolean, [])
def mX12_fewestNow : cz_M := (12, cX12_fewestNow, 3, { frames := 5, cells := 0, slots := 0, locals := 117 }, yX12_fewestNow, some .int, [])
def mX12_fewest : cz_M := (12, cX12_fewest, 2, { frames := 6, cells := 0, slots := 0, locals := 139 }, yX12_fewest, some .int, [])
def mX12_fewestBy : cz_M := (12, cX12_fewestBy, 1, { frames := 6, cells := 0, slots := 0, locals := 139 }, yX12_fewestBy, some .int, [])
def mX12_isSlice : cz_M := (12, cX12_isSlice, 2, { frames := 0, cells := 0, slots := 0, locals := 0 }, yX12_isSlice, some .boolean, [])
def mX12_fitsNow : cz_M := (12, cX12_fitsNow, 6, { frames := 0, cells := 0, slots := 0, locals := 0 }, yX12_fitsNow, some .int, [])
def mX12_fits : cz_M := (12, cX12_fits, 2, { frames := 5, cells := 0, slots := 0, locals := 115 }, yX12_fits, some .int, [])
def mX12_by : cz_M := (12, cX12_by, 4, { frames := 4, cells := 0, slots := 0, locals := 95 }, yX12_by, some .int, [])
def mX12_comes : cz_M := (12, cX12_comes, 3, { frames := 0, cells := 0, slots := 0, locals := 0 }, yX12_comes, none, [])
def mX12_drawOf : cz_M := (12, cX12_drawOf, 2, { frames := 0, cells := 0, slots := 0, locals := 0 }, yX12_drawOf, some .int, [])
def mX12_draws : cz_M := (12, cX12_draws, 3, { frames := 1, cells := 0, slots := 0, locals := 22 }, yX12_draws, some .int, [])
def mX12_nights : cz_M := (12, cX12_nights, 7, { frames := 5, cells := 0, slots := 0, locals := 115 }, yX12_nights, some .int, [])
def mX12_keeps : cz_M := (12, cX12_keeps, 2, { frames := 0, cells := 0, slots := 0, locals := 0 }, yX12_keeps, none, [])
def mX12_call : cz_M := (12, cX12_call, 3, { frames := 2, cells := 0, slots := 0, locals := 42 }, yX12_call, some .boolean, [])
def mX12_calls : cz_M := (12, cX12_calls, 1, { frames := 1, cells := 0, slots := 0, locals := 21 }, yX12_calls, some .int, [])
def mX12_cloud : cz_M := (12, cX12_cloud, 3, { frames := 2, cells := 0, slots := 0, locals := 43 }, yX12_cloud, some .boolean, [])
def mX12_draw : cz_M := (12, cX12_draw, 1, { frames := 2, cells := 0, slots := 0, locals := 44 }, yX12_draw, some .int, [])
def mX12_lift : cz_M := (12, cX12_lift, 1, { frames := 2, cells := 0, slots := 0, locals := 42 }, yX12_lift, some .boolean, [])
def mX12_seed : cz_M := (12, cX12_seed, 2, { frames := 2, cells := 0, slots := 0, locals := 42 }, yX12_seed, some .boolean, [])
def mX12_undo : cz_M := (12, cX12_undo, 2, { frames := 2, cells := 0, slots := 0, locals := 42 }, yX12_undo, some .boolean, [])
def mX12_mark : cz_M := (12, cX12_mark, 2, { frames := 1, cells := 0, slots := 0, locals := 21 }, yX12_mark, some .int, [])
def mX12_back : cz_M := (12, cX12_back, 3, { frames := 2, cells := 0, slots := 0, locals := 42 }, yX12_back, some .boolean, [])
def mX12_event : cz_M := (12, cX12_event, 3, { frames := 2, cells := 0, slots := 0, locals := 41 }, yX12_event, some .int, [])
def mX12_led : cz_M := (12, cX12_led, 4, { frames := 5, cells := 0, slots := 0, locals := 115 }, yX12_led, some .int, [])
def mX12_size : cz_M := (12, cX12_size, 2, { frames := 1, cells := 0, slots := 0, locals := 22 }, yX12_size, some .int, [])
def mX12_trouble : cz_M := (12, cX12_trouble, 1, { frames := 0, cells := 0, slots := 0, locals := 0 }, yX12_trouble, some .int, [])
def mJ6_bitCount_0f7a4 : cz_M := (14, cJ6_bitCount_0f7a4, 1, { frames := 0, cells := 0, slots := 0, locals := 0 }, yJ6_bitCount_0f7a4, some .int, [])
def mJ9_max_7cf53 : cz_M := (15, cJ9_max_7cf53, 2, { frames := 0, cells := 0, slots := 0, locals := 0 }, yJ9_max_7cf53, some .int, [])
def mJ9_min_7cf53 : cz_M := (15, cJ9_min_7cf53, 2, { frames := 0, cells := 0, slots := 0, locals := 0 }, yJ9_min_7cf53, some .int, [])
def mJ7_fill_53178 : cz_M := (16, cJ7_fill_53178, 4, { frames := 0, cells := 0, slots := 0, locals := 0 }, yJ7_fill_53178, none, [])
def mL_led : cz_M := (13, cL_led, 4, { frames := 7, cells := 1, slots := 6, locals := 165 }, yL_led, some .int, [])
def mL_law : cz_M := (13, code, 7, room_1, yL_law, some .boolean, [])
theorem cz_oi : Cond.instanceMethod objectInit ∈ cz_T := cz_in (i := 160) (by decide +kernel) rfl
theorem cz_oc : Cond.code objectInit ⟨#[0xb1]⟩ 1 none ∈ cz_T := cz_in (i := 161) (by decide +kernel) rfl
theorem ini10 : Cond.initialized (cz_on 10) ∈ cz_T := cz_in (i := 130) (by decide +kernel) rfl
theorem ini0 : Cond.initialized (cz_on 0) ∈ cz_T := cz_in (i := 131) (by decide +kernel) rfl
theorem ini1 : Cond.initialized (cz_on 1) ∈ cz_T := cz_in (i := 135) (by decide +kernel) rfl
theorem ini2 : Cond.initialized (cz_on 2) ∈ cz_T := cz_in (i := 133) (by decide +kernel) rfl
theorem ini3 : Cond.initialized (cz_on 3) ∈ cz_T := cz_in (i := 137) (by decide +kernel) rfl
theorem ini4 : Cond.initialized (cz_on 4) ∈ cz_T := cz_in (i := 132) (by decide +kernel) rfl
theorem ini5 : Cond.initialized (cz_on 5) ∈ cz_T := cz_in (i := 140) (by decide +kernel) rfl
theorem ini6 : Cond.initialized (cz_on 6) ∈ cz_T := cz_in (i := 138) (by decide +kernel) rfl
theorem ini7 : Cond.initialized (cz_on 7) ∈ cz_T := cz_in (i := 136) (by decide +kernel) rfl
theorem ini8 : Cond.initialized (cz_on 8) ∈ cz_T := cz_in (i := 139) (by decide +kernel) rfl
theorem ini9 : Cond.initialized (cz_on 9) ∈ cz_T := cz_in (i := 134) (by decide +kernel) rfl
theorem ini13 : Cond.initialized (cz_on 13) ∈ cz_T := cz_in (i := 129) (by decide +kernel) rfl
theorem ini12 : Cond.initialized (cz_on 12) ∈ cz_T := cz_in (i := 141) (by decide +kernel) rfl
theorem ini11 : Cond.initialized (cz_on 11) ∈ cz_T := cz_in (i := 146) (by decide +kernel) rfl
theorem ini14 : Cond.initialized (cz_on 14) ∈ cz_T := cz_in (i := 149) (by decide +kernel) rfl
theorem ini15 : Cond.initialized (cz_on 15) ∈ cz_T := cz_in (i := 148) (by decide +kernel) rfl
theorem ini16 : Cond.initialized (cz_on 16) ∈ cz_T := cz_in (i := 147) (by decide +kernel) rfl
theorem ins0 : Cond.instantiable (cz_on 0) (cz_nf 0) ∈ cz_T := cz_in (i := 163) (by decide +kernel) rfl
theorem ins1 : Cond.instantiable (cz_on 1) (cz_nf 1) ∈ cz_T := cz_in (i := 252) (by decide +kernel) rfl
theorem ins2 : Cond.instantiable (cz_on 2) (cz_nf 2) ∈ cz_T := cz_in (i := 196) (by decide +kernel) rfl
theorem ins3 : Cond.instantiable (cz_on 3) (cz_nf 3) ∈ cz_T := cz_in (i := 423) (by decide +kernel) rfl
theorem ins4 : Cond.instantiable (cz_on 4) (cz_nf 4) ∈ cz_T := cz_in (i := 171) (by decide +kernel) rfl
theorem ins5 : Cond.instantiable (cz_on 5) (cz_nf 5) ∈ cz_T := cz_in (i := 531) (by decide +kernel) rfl
theorem ins6 : Cond.instantiable (cz_on 6) (cz_nf 6) ∈ cz_T := cz_in (i := 453) (by decide +kernel) rfl
theorem ins7 : Cond.instantiable (cz_on 7) (cz_nf 7) ∈ cz_T := cz_in (i := 362) (by decide +kernel) rfl
theorem ins8 : Cond.instantiable (cz_on 8) (cz_nf 8) ∈ cz_T := cz_in (i := 477) (by decide +kernel) rfl
theorem ins9 : Cond.instantiable (cz_on 9) (cz_nf 9) ∈ cz_T := cz_in (i := 222) (by decide +kernel) rfl
theorem ins10 : Cond.instantiable (cz_on 10) (cz_nf 10) ∈ cz_T := cz_in (i := 155) (by decide +kernel) rfl
theorem ins11 : Cond.instantiable (cz_on 11) (cz_nf 11) ∈ cz_T := cz_in (i := 1484) (by decide +kernel) rfl
theorem ins12 : Cond.instantiable (cz_on 12) (cz_nf 12) ∈ cz_T := cz_in (i := 1353) (by decide +kernel) rfl
theorem arc_byte : Cond.arrayClass (newarray.typeOf .byte) ∈ cz_T := cz_in (i := 189) (by decide +kernel) rfl
theorem arc_int : Cond.arrayClass (newarray.typeOf .int) ∈ cz_T := cz_in (i := 190) (by decide +kernel) rfl
theorem arc_long : Cond.arrayClass (newarray.typeOf .long) ∈ cz_T := cz_in (i := 421) (by decide +kernel) rfl
theorem arc_boolean : Cond.arrayClass (newarray.typeOf .boolean) ∈ cz_T := cz_in (i := 529) (by decide +kernel) rfl
theorem myX0_init : cz_my mX0_init 0 0 := ⟨rfl, cz_in (i := 166) (by decide +kernel) rfl, ini0, by decide +kernel, by decide +kernel, by decide +kernel⟩
theorem inX0_init : Cond.instanceMethod (cz_nm mX0_init) ∈ cz_T := cz_in (i := 165) (by decide +kernel) rfl
theorem myX0_clear : cz_my mX0_clear 0 0 := ⟨rfl, cz_in (i := 658) (by decide +kernel) rfl, ini0, by decide +kernel, by decide +kernel, by decide +kernel⟩
theorem inX0_clear : Cond.instanceMethod (cz_nm mX0_clear) ∈ cz_T := cz_in (i := 656) (by decide +kernel) rfl
theorem seX0_clear : Cond.selects (cz_on 0) (cz_nm mX0_clear) (cz_nm mX0_clear) ∈ cz_T := cz_in (i := 657) (by decide +kernel) rfl
theorem myX0_cheesesIn : cz_my mX0_cheesesIn 0 1 := ⟨rfl, cz_in (i := 945) (by decide +kernel) rfl, ini0, by decide +kernel, by decide +kernel, by decide +kernel⟩
theorem inX0_cheesesIn : Cond.instanceMethod (cz_nm mX0_cheesesIn) ∈ cz_T := cz_in (i := 943) (by decide +kernel) rfl
theorem seX0_cheesesIn : Cond.selects (cz_on 0) (cz_nm mX0_cheesesIn) (cz_nm mX0_cheesesIn) ∈ cz_T := cz_in (i := 944) (by decide +kernel) rfl
theorem myX0_costOf : cz_my mX0_costOf 0 1 := ⟨rfl, cz_in (i := 1038) (by decide +kernel) rfl, ini0, by decide +kernel, by decide +kernel, by decide +kernel⟩
theorem inX0_costOf : Cond.instanceMethod (cz_nm mX0_costOf) ∈ cz_T := cz_in (i := 1036) (by decide +kernel) rfl
theorem seX0_costOf : Cond.selects (cz_on 0) (cz_nm mX0_costOf) (cz_nm mX0_costOf) ∈ cz_T := cz_in (i := 1037) (by decide +kernel) rfl
theorem myX1_init : cz_my mX1_init 1 0 := ⟨rfl, cz_in (i := 255) (by decide +kernel) rfl, ini1, by decide +kernel, by decide +kernel, by decide +kernel⟩
theorem inX1_init : Cond.instanceMethod (cz_nm mX1_init) ∈ cz_T := cz_in (i := 254) (by decide +kernel) rfl
theorem myX2_init : cz_my mX2_init 2 0 := ⟨rfl, cz_in (i := 199) (by decide +kernel) rfl, ini2, by decide +kernel, by decide +kernel, by decide +kernel⟩
theorem inX2_init : Cond.instanceMethod (cz_nm mX2_init) ∈ cz_T := cz_in (i := 198) (by decide +kernel) rfl
theorem myX3_init : cz_my mX3_init 3 0 := ⟨rfl, cz_in (i := 426) (by decide +kernel) rfl, ini3, by decide +kernel, by decide +kernel, by decide +kernel⟩
theorem inX3_init : Cond.instanceMethod (cz_nm mX3_init) ∈ cz_T := cz_in (i := 425) (by decide +kernel) rfl
theorem myX3_clear : cz_my mX3_clear 3 0 := ⟨rfl, cz_in (i := 855) (by decide +kernel) rfl, ini3, by decide +kernel, by decide +kernel, by decide +kernel⟩
theorem inX3_clear : Cond.instanceMethod (cz_nm mX3_clear) ∈ cz_T := cz_in (i := 853) (by decide +kernel) rfl
theorem seX3_clear : Cond.selects (cz_on 3) (cz_nm mX3_clear) (cz_nm mX3_clear) ∈ cz_T := cz_in (i := 854) (by decide +kernel) rfl
theorem myX3_become : cz_my mX3_become 3 1 := ⟨rfl, cz_in (i := 1217) (by decide +kernel) rfl, ini3, by decide +kernel, by decide +kernel, by decide +kernel⟩
theorem inX3_become : Cond.instanceMethod (cz_nm mX3_become) ∈ cz_T := cz_in (i := 1215) (by decide +kernel) rfl
theorem seX3_become : Cond.selects (cz_on 3) (cz_nm mX3_become) (cz_nm mX3_become) ∈ cz_T := cz_in (i := 1216) (by decide +kernel) rfl
theorem myX3_add : cz_my mX3_add 3 2 := ⟨rfl, cz_in (i := 1197) (by decide +kernel) rfl, ini3, by decide +kernel, by decide +kernel, by decide +kernel⟩
theorem inX3_add : Cond.instanceMethod (cz_nm mX3_add) ∈ cz_T := cz_in (i := 1195) (by decide +kernel) rfl
theorem seX3_add : Cond.selects (cz_on 3) (cz_nm mX3_add) (cz_nm mX3_add) ∈ cz_T := cz_in (i := 1196) (by decide +kernel) rfl
theorem myX3_addDrawn : cz_my mX3_addDrawn 3 1 := ⟨rfl, cz_in (i := 1185) (by decide +kernel) rfl, ini3, by decide +kernel, by decide +kernel, by decide +kernel⟩
theorem inX3_addDrawn : Cond.instanceMethod (cz_nm mX3_addDrawn) ∈ cz_T := cz_in (i := 1183) (by decide +kernel) rfl
theorem seX3_addDrawn : Cond.selects (cz_on 3) (cz_nm mX3_addDrawn) (cz_nm mX3_addDrawn) ∈ cz_T := cz_in (i := 1184) (by decide +kernel) rfl
theorem myX3_drawBelow : cz_my mX3_drawBelow 3 1 := ⟨rfl, cz_in (i := 1189) (by decide +kernel) rfl, ini3, by decide +kernel, by decide +kernel, by decide +kernel⟩
theorem inX3_drawBelow : Cond.instanceMethod (cz_nm mX3_drawBelow) ∈ cz_T := cz_in (i := 1188) (by decide +kernel) rfl
theorem seX3_drawBelow : Cond.selects (cz_on 3) (cz_nm mX3_drawBelow) (cz_nm mX3_drawBelow) ∈ cz_T := cz_in (i := 60) (by decide +kernel) rfl
theorem myX4_init : cz_my mX4_init 4 0 := ⟨rfl, cz_in (i := 174) (by decide +kernel) rfl, ini4, by decide +kernel, by decide +kernel, by decide +kernel⟩
theorem inX4_init : Cond.instanceMethod (cz_nm mX4_init) ∈ cz_T := cz_in (i := 173) (by decide +kernel) rfl
theorem myX4_holds : cz_my mX4_holds 4 1 := ⟨rfl, cz_in (i := 919) (by decide +kernel) rfl, ini4, by decide +kernel, by decide +kernel, by decide +kernel⟩
theorem inX4_holds : Cond.instanceMethod (cz_nm mX4_holds) ∈ cz_T := cz_in (i := 917) (by decide +kernel) rfl
theorem seX4_holds : Cond.selects (cz_on 4) (cz_nm mX4_holds) (cz_nm mX4_holds) ∈ cz_T := cz_in (i := 918) (by decide +kernel) rfl
theorem myX5_init : cz_my mX5_init 5 2 := ⟨rfl, cz_in (i := 534) (by decide +kernel) rfl, ini5, by decide +kernel, by decide +kernel, by decide +kernel⟩
theorem inX5_init : Cond.instanceMethod (cz_nm mX5_init) ∈ cz_T := cz_in (i := 533) (by decide +kernel) rfl
theorem myX5_play : cz_my mX5_play 5 4 := ⟨rfl, cz_in (i := 970) (by decide +kernel) rfl, ini5, by decide +kernel, by decide +kernel, by decide +kernel⟩
theorem inX5_play : Cond.instanceMethod (cz_nm mX5_play) ∈ cz_T := cz_in (i := 968) (by decide +kernel) rfl
theorem seX5_play : Cond.selects (cz_on 5) (cz_nm mX5_play) (cz_nm mX5_play) ∈ cz_T := cz_in (i := 969) (by decide +kernel) rfl
theorem myX5_forget : cz_my mX5_forget 5 0 := ⟨rfl, cz_in (i := 974) (by decide +kernel) rfl, ini5, by decide +kernel, by decide +kernel, by decide +kernel⟩
theorem inX5_forget : Cond.instanceMethod (cz_nm mX5_forget) ∈ cz_T := cz_in (i := 973) (by decide +kernel) rfl
theorem seX5_forget : Cond.selects (cz_on 5) (cz_nm mX5_forget) (cz_nm mX5_forget) ∈ cz_T := cz_in (i := 42) (by decide +kernel) rfl
theorem myX5_turnAll : cz_my mX5_turnAll 5 2 := ⟨rfl, cz_in (i := 981) (by decide +kernel) rfl, ini5, by decide +kernel, by decide +kernel, by decide +kernel⟩
theorem inX5_turnAll : Cond.instanceMethod (cz_nm mX5_turnAll) ∈ cz_T := cz_in (i := 980) (by decide +kernel) rfl
theorem seX5_turnAll : Cond.selects (cz_on 5) (cz_nm mX5_turnAll) (cz_nm mX5_turnAll) ∈ cz_T := cz_in (i := 43) (by decide +kernel) rfl
theorem myX5_turnSome : cz_my mX5_turnSome 5 4 := ⟨rfl, cz_in (i := 999) (by decide +kernel) rfl, ini5, by decide +kernel, by decide +kernel, by decide +kernel⟩
theorem inX5_turnSome : Cond.instanceMethod (cz_nm mX5_turnSome) ∈ cz_T := cz_in (i := 998) (by decide +kernel) rfl
theorem seX5_turnSome : Cond.selects (cz_on 5) (cz_nm mX5_turnSome) (cz_nm mX5_turnSome) ∈ cz_T := cz_in (i := 45) (by decide +kernel) rfl
theorem myX5_judge : cz_my mX5_judge 5 3 := ⟨rfl, cz_in (i := 1003) (by decide +kernel) rfl, ini5, by decide +kernel, by decide +kernel, by decide +kernel⟩
theorem inX5_judge : Cond.instanceMethod (cz_nm mX5_judge) ∈ cz_T := cz_in (i := 1002) (by decide +kernel) rfl
theorem seX5_judge : Cond.selects (cz_on 5) (cz_nm mX5_judge) (cz_nm mX5_judge) ∈ cz_T := cz_in (i := 46) (by decide +kernel) rfl
theorem myX5_isAwake : cz_my mX5_isAwake 5 2 := ⟨rfl, cz_in (i := 991) (by decide +kernel) rfl, ini5, by decide +kernel, by decide +kernel, by decide +kernel⟩
theorem inX5_isAwake : Cond.instanceMethod (cz_nm mX5_isAwake) ∈ cz_T := cz_in (i := 989) (by decide +kernel) rfl
theorem seX5_isAwake : Cond.selects (cz_on 5) (cz_nm mX5_isAwake) (cz_nm mX5_isAwake) ∈ cz_T := cz_in (i := 990) (by decide +kernel) rfl
theorem myX5_isCalled : cz_my mX5_isCalled 5 2 := ⟨rfl, cz_in (i := 995) (by decide +kernel) rfl, ini5, by decide +kernel, by decide +kernel, by decide +kernel⟩
theorem inX5_isCalled : Cond.instanceMethod (cz_nm mX5_isCalled) ∈ cz_T := cz_in (i := 994) (by decide +kernel) rfl
theorem seX5_isCalled : Cond.selects (cz_on 5) (cz_nm mX5_isCalled) (cz_nm mX5_isCalled) ∈ cz_T := cz_in (i := 44) (by decide +kernel) rfl
theorem myX5_noticedHuts : cz_my mX5_noticedHuts 5 2 := ⟨rfl, cz_in (i := 986) (by decide +kernel) rfl, ini5, by decide +kernel, by decide +kernel, by decide +kernel⟩
theorem inX5_noticedHuts : Cond.instanceMethod (cz_nm mX5_noticedHuts) ∈ cz_T := cz_in (i := 984) (by decide +kernel) rfl
theorem seX5_noticedHuts : Cond.selects (cz_on 5) (cz_nm mX5_noticedHuts) (cz_nm mX5_noticedHuts) ∈ cz_T := cz_in (i := 985) (by decide +kernel) rfl
theorem myX5_minutesAwake : cz_my mX5_minutesAwake 5 1 := ⟨rfl, cz_in (i := 1021) (by decide +kernel) rfl, ini5, by decide +kernel, by decide +kernel, by decide +kernel⟩
theorem inX5_minutesAwake : Cond.instanceMethod (cz_nm mX5_minutesAwake) ∈ cz_T := cz_in (i := 1019) (by decide +kernel) rfl
theorem seX5_minutesAwake : Cond.selects (cz_on 5) (cz_nm mX5_minutesAwake) (cz_nm mX5_minutesAwake) ∈ cz_T := cz_in (i := 1020) (by decide +kernel) rfl
theorem myX5_turnerOf : cz_my mX5_turnerOf 5 2 := ⟨rfl, cz_in (i := 1057) (by decide +kernel) rfl, ini5, by decide +kernel, by decide +kernel, by decide +kernel⟩
theorem inX5_turnerOf : Cond.instanceMethod (cz_nm mX5_turnerOf) ∈ cz_T := cz_in (i := 1055) (by decide +kernel) rfl
theorem seX5_turnerOf : Cond.selects (cz_on 5) (cz_nm mX5_turnerOf) (cz_nm mX5_turnerOf) ∈ cz_T := cz_in (i := 1056) (by decide +kernel) rfl
theorem myX5_isTurned : cz_my mX5_isTurned 5 2 := ⟨rfl, cz_in (i := 1069) (by decide +kernel) rfl, ini5, by decide +kernel, by decide +kernel, by decide +kernel⟩
theorem inX5_isTurned : Cond.instanceMethod (cz_nm mX5_isTurned) ∈ cz_T := cz_in (i := 1068) (by decide +kernel) rfl
theorem seX5_isTurned : Cond.selects (cz_on 5) (cz_nm mX5_isTurned) (cz_nm mX5_isTurned) ∈ cz_T := cz_in (i := 49) (by decide +kernel) rfl
theorem myX5_liesUp : cz_my mX5_liesUp 5 2 := ⟨rfl, cz_in (i := 1065) (by decide +kernel) rfl, ini5, by decide +kernel, by decide +kernel, by decide +kernel⟩
theorem inX5_liesUp : Cond.instanceMethod (cz_nm mX5_liesUp) ∈ cz_T := cz_in (i := 1063) (by decide +kernel) rfl
theorem seX5_liesUp : Cond.selects (cz_on 5) (cz_nm mX5_liesUp) (cz_nm mX5_liesUp) ∈ cz_T := cz_in (i := 1064) (by decide +kernel) rfl
theorem myX5_minuteOfVein : cz_my mX5_minuteOfVein 5 2 := ⟨rfl, cz_in (i := 1087) (by decide +kernel) rfl, ini5, by decide +kernel, by decide +kernel, by decide +kernel⟩
theorem inX5_minuteOfVein : Cond.instanceMethod (cz_nm mX5_minuteOfVein) ∈ cz_T := cz_in (i := 1085) (by decide +kernel) rfl
theorem seX5_minuteOfVein : Cond.selects (cz_on 5) (cz_nm mX5_minuteOfVein) (cz_nm mX5_minuteOfVein) ∈ cz_T := cz_in (i := 1086) (by decide +kernel) rfl
theorem myX5_cheesesWithVeins : cz_my mX5_cheesesWithVeins 5 1 := ⟨rfl, cz_in (i := 1165) (by decide +kernel) rfl, ini5, by decide +kernel, by decide +kernel, by decide +kernel⟩
theorem inX5_cheesesWithVeins : Cond.instanceMethod (cz_nm mX5_cheesesWithVeins) ∈ cz_T := cz_in (i := 1163) (by decide +kernel) rfl
theorem seX5_cheesesWithVeins : Cond.selects (cz_on 5) (cz_nm mX5_cheesesWithVeins) (cz_nm mX5_cheesesWithVeins) ∈ cz_T := cz_in (i := 1164) (by decide +kernel) rfl
theorem myX5_hasJustVeins : cz_my mX5_hasJustVeins 5 2 := ⟨rfl, cz_in (i := 1169) (by decide +kernel) rfl, ini5, by decide +kernel, by decide +kernel, by decide +kernel⟩
theorem inX5_hasJustVeins : Cond.instanceMethod (cz_nm mX5_hasJustVeins) ∈ cz_T := cz_in (i := 1168) (by decide +kernel) rfl
theorem seX5_hasJustVeins : Cond.selects (cz_on 5) (cz_nm mX5_hasJustVeins) (cz_nm mX5_hasJustVeins) ∈ cz_T := cz_in (i := 59) (by decide +kernel) rfl
theorem myX5_missesAny : cz_my mX5_missesAny 5 0 := ⟨rfl, cz_in (i := 1149) (by decide +kernel) rfl, ini5, by decide +kernel, by decide +kernel, by decide +kernel⟩
theorem inX5_missesAny : Cond.instanceMethod (cz_nm mX5_missesAny) ∈ cz_T := cz_in (i := 1147) (by decide +kernel) rfl
theorem seX5_missesAny : Cond.selects (cz_on 5) (cz_nm mX5_missesAny) (cz_nm mX5_missesAny) ∈ cz_T := cz_in (i := 1148) (by decide +kernel) rfl
theorem myX5_price : cz_my mX5_price 5 1 := ⟨rfl, cz_in (i := 1042) (by decide +kernel) rfl, ini5, by decide +kernel, by decide +kernel, by decide +kernel⟩
theorem inX5_price : Cond.instanceMethod (cz_nm mX5_price) ∈ cz_T := cz_in (i := 1040) (by decide +kernel) rfl
theorem seX5_price : Cond.selects (cz_on 5) (cz_nm mX5_price) (cz_nm mX5_price) ∈ cz_T := cz_in (i := 1041) (by decide +kernel) rfl
theorem myX5_sum : cz_my mX5_sum 5 0 := ⟨rfl, cz_in (i := 1034) (by decide +kernel) rfl, ini5, by decide +kernel, by decide +kernel, by decide +kernel⟩
theorem inX5_sum : Cond.instanceMethod (cz_nm mX5_sum) ∈ cz_T := cz_in (i := 1032) (by decide +kernel) rfl
theorem seX5_sum : Cond.selects (cz_on 5) (cz_nm mX5_sum) (cz_nm mX5_sum) ∈ cz_T := cz_in (i := 1033) (by decide +kernel) rfl
theorem myX6_init : cz_my mX6_init 6 0 := ⟨rfl, cz_in (i := 456) (by decide +kernel) rfl, ini6, by decide +kernel, by decide +kernel, by decide +kernel⟩
theorem inX6_init : Cond.instanceMethod (cz_nm mX6_init) ∈ cz_T := cz_in (i := 455) (by decide +kernel) rfl
theorem myX6_clear : cz_my mX6_clear 6 0 := ⟨rfl, cz_in (i := 859) (by decide +kernel) rfl, ini6, by decide +kernel, by decide +kernel, by decide +kernel⟩
theorem inX6_clear : Cond.instanceMethod (cz_nm mX6_clear) ∈ cz_T := cz_in (i := 857) (by decide +kernel) rfl
theorem seX6_clear : Cond.selects (cz_on 6) (cz_nm mX6_clear) (cz_nm mX6_clear) ∈ cz_T := cz_in (i := 858) (by decide +kernel) rfl
theorem myX6_keepAct : cz_my mX6_keepAct 6 1 := ⟨rfl, cz_in (i := 1209) (by decide +kernel) rfl, ini6, by decide +kernel, by decide +kernel, by decide +kernel⟩
theorem inX6_keepAct : Cond.instanceMethod (cz_nm mX6_keepAct) ∈ cz_T := cz_in (i := 1207) (by decide +kernel) rfl
theorem seX6_keepAct : Cond.selects (cz_on 6) (cz_nm mX6_keepAct) (cz_nm mX6_keepAct) ∈ cz_T := cz_in (i := 1208) (by decide +kernel) rfl
theorem myX6_dropOldestAct : cz_my mX6_dropOldestAct 6 0 := ⟨rfl, cz_in (i := 1213) (by decide +kernel) rfl, ini6, by decide +kernel, by decide +kernel, by decide +kernel⟩
theorem inX6_dropOldestAct : Cond.instanceMethod (cz_nm mX6_dropOldestAct) ∈ cz_T := cz_in (i := 1212) (by decide +kernel) rfl
theorem seX6_dropOldestAct : Cond.selects (cz_on 6) (cz_nm mX6_dropOldestAct) (cz_nm mX6_dropOldestAct) ∈ cz_T := cz_in (i := 62) (by decide +kernel) rfl
theorem myX6_takeBack : cz_my mX6_takeBack 6 1 := ⟨rfl, cz_in (i := 1250) (by decide +kernel) rfl, ini6, by decide +kernel, by decide +kernel, by decide +kernel⟩
theorem inX6_takeBack : Cond.instanceMethod (cz_nm mX6_takeBack) ∈ cz_T := cz_in (i := 1248) (by decide +kernel) rfl
theorem seX6_takeBack : Cond.selects (cz_on 6) (cz_nm mX6_takeBack) (cz_nm mX6_takeBack) ∈ cz_T := cz_in (i := 1249) (by decide +kernel) rfl
theorem myX6_keepMark : cz_my mX6_keepMark 6 1 := ⟨rfl, cz_in (i := 1258) (by decide +kernel) rfl, ini6, by decide +kernel, by decide +kernel, by decide +kernel⟩
theorem inX6_keepMark : Cond.instanceMethod (cz_nm mX6_keepMark) ∈ cz_T := cz_in (i := 1256) (by decide +kernel) rfl
theorem seX6_keepMark : Cond.selects (cz_on 6) (cz_nm mX6_keepMark) (cz_nm mX6_keepMark) ∈ cz_T := cz_in (i := 1257) (by decide +kernel) rfl
theorem myX6_goBack : cz_my mX6_goBack 6 2 := ⟨rfl, cz_in (i := 1266) (by decide +kernel) rfl, ini6, by decide +kernel, by decide +kernel, by decide +kernel⟩
theorem inX6_goBack : Cond.instanceMethod (cz_nm mX6_goBack) ∈ cz_T := cz_in (i := 1264) (by decide +kernel) rfl
theorem seX6_goBack : Cond.selects (cz_on 6) (cz_nm mX6_goBack) (cz_nm mX6_goBack) ∈ cz_T := cz_in (i := 1265) (by decide +kernel) rfl
theorem myX7_init : cz_my mX7_init 7 2 := ⟨rfl, cz_in (i := 365) (by decide +kernel) rfl, ini7, by decide +kernel, by decide +kernel, by decide +kernel⟩
theorem inX7_init : Cond.instanceMethod (cz_nm mX7_init) ∈ cz_T := cz_in (i := 364) (by decide +kernel) rfl
theorem myX7_readAll : cz_my mX7_readAll 7 2 := ⟨rfl, cz_in (i := 654) (by decide +kernel) rfl, ini7, by decide +kernel, by decide +kernel, by decide +kernel⟩
theorem inX7_readAll : Cond.instanceMethod (cz_nm mX7_readAll) ∈ cz_T := cz_in (i := 652) (by decide +kernel) rfl
theorem seX7_readAll : Cond.selects (cz_on 7) (cz_nm mX7_readAll) (cz_nm mX7_readAll) ∈ cz_T := cz_in (i := 653) (by decide +kernel) rfl
theorem myX7_fail : cz_my mX7_fail 7 1 := ⟨rfl, cz_in (i := 749) (by decide +kernel) rfl, ini7, by decide +kernel, by decide +kernel, by decide +kernel⟩
theorem inX7_fail : Cond.instanceMethod (cz_nm mX7_fail) ∈ cz_T := cz_in (i := 748) (by decide +kernel) rfl
theorem seX7_fail : Cond.selects (cz_on 7) (cz_nm mX7_fail) (cz_nm mX7_fail) ∈ cz_T := cz_in (i := 7) (by decide +kernel) rfl
theorem myX7_step : cz_my mX7_step 7 0 := ⟨rfl, cz_in (i := 662) (by decide +kernel) rfl, ini7, by decide +kernel, by decide +kernel, by decide +kernel⟩
theorem inX7_step : Cond.instanceMethod (cz_nm mX7_step) ∈ cz_T := cz_in (i := 661) (by decide +kernel) rfl
theorem seX7_step : Cond.selects (cz_on 7) (cz_nm mX7_step) (cz_nm mX7_step) ∈ cz_T := cz_in (i := 2) (by decide +kernel) rfl
theorem myX7_stepWord : cz_my mX7_stepWord 7 0 := ⟨rfl, cz_in (i := 666) (by decide +kernel) rfl, ini7, by decide +kernel, by decide +kernel, by decide +kernel⟩
theorem inX7_stepWord : Cond.instanceMethod (cz_nm mX7_stepWord) ∈ cz_T := cz_in (i := 665) (by decide +kernel) rfl
theorem seX7_stepWord : Cond.selects (cz_on 7) (cz_nm mX7_stepWord) (cz_nm mX7_stepWord) ∈ cz_T := cz_in (i := 3) (by decide +kernel) rfl
theorem myX7_stepWhole : cz_my mX7_stepWhole 7 0 := ⟨rfl, cz_in (i := 672) (by decide +kernel) rfl, ini7, by decide +kernel, by decide +kernel, by decide +kernel⟩
theorem inX7_stepWhole : Cond.instanceMethod (cz_nm mX7_stepWhole) ∈ cz_T := cz_in (i := 671) (by decide +kernel) rfl
theorem seX7_stepWhole : Cond.selects (cz_on 7) (cz_nm mX7_stepWhole) (cz_nm mX7_stepWhole) ∈ cz_T := cz_in (i := 4) (by decide +kernel) rfl
theorem myX7_packed : cz_my mX7_packed 7 1 := ⟨rfl, cz_in (i := 697) (by decide +kernel) rfl, ini7, by decide +kernel, by decide +kernel, by decide +kernel⟩
theorem inX7_packed : Cond.static (cz_nm mX7_packed) ∈ cz_T := cz_in (i := 696) (by decide +kernel) rfl
theorem myX7_seesWord : cz_my mX7_seesWord 7 1 := ⟨rfl, cz_in (i := 770) (by decide +kernel) rfl, ini7, by decide +kernel, by decide +kernel, by decide +kernel⟩
theorem inX7_seesWord : Cond.instanceMethod (cz_nm mX7_seesWord) ∈ cz_T := cz_in (i := 769) (by decide +kernel) rfl
theorem seX7_seesWord : Cond.selects (cz_on 7) (cz_nm mX7_seesWord) (cz_nm mX7_seesWord) ∈ cz_T := cz_in (i := 12) (by decide +kernel) rfl
theorem myX7_takeWord : cz_my mX7_takeWord 7 1 := ⟨rfl, cz_in (i := 766) (by decide +kernel) rfl, ini7, by decide +kernel, by decide +kernel, by decide +kernel⟩
theorem inX7_takeWord : Cond.instanceMethod (cz_nm mX7_takeWord) ∈ cz_T := cz_in (i := 765) (by decide +kernel) rfl
theorem seX7_takeWord : Cond.selects (cz_on 7) (cz_nm mX7_takeWord) (cz_nm mX7_takeWord) ∈ cz_T := cz_in (i := 11) (by decide +kernel) rfl
theorem myX7_seesWhole : cz_my mX7_seesWhole 7 2 := ⟨rfl, cz_in (i := 778) (by decide +kernel) rfl, ini7, by decide +kernel, by decide +kernel, by decide +kernel⟩
theorem inX7_seesWhole : Cond.instanceMethod (cz_nm mX7_seesWhole) ∈ cz_T := cz_in (i := 777) (by decide +kernel) rfl
theorem seX7_seesWhole : Cond.selects (cz_on 7) (cz_nm mX7_seesWhole) (cz_nm mX7_seesWhole) ∈ cz_T := cz_in (i := 14) (by decide +kernel) rfl
theorem myX7_takeWhole : cz_my mX7_takeWhole 7 2 := ⟨rfl, cz_in (i := 774) (by decide +kernel) rfl, ini7, by decide +kernel, by decide +kernel, by decide +kernel⟩
theorem inX7_takeWhole : Cond.instanceMethod (cz_nm mX7_takeWhole) ∈ cz_T := cz_in (i := 773) (by decide +kernel) rfl
theorem seX7_takeWhole : Cond.selects (cz_on 7) (cz_nm mX7_takeWhole) (cz_nm mX7_takeWhole) ∈ cz_T := cz_in (i := 13) (by decide +kernel) rfl
theorem myX7_takeComma : cz_my mX7_takeComma 7 0 := ⟨rfl, cz_in (i := 784) (by decide +kernel) rfl, ini7, by decide +kernel, by decide +kernel, by decide +kernel⟩
theorem inX7_takeComma : Cond.instanceMethod (cz_nm mX7_takeComma) ∈ cz_T := cz_in (i := 783) (by decide +kernel) rfl
theorem seX7_takeComma : Cond.selects (cz_on 7) (cz_nm mX7_takeComma) (cz_nm mX7_takeComma) ∈ cz_T := cz_in (i := 15) (by decide +kernel) rfl
theorem myX7_takeHut : cz_my mX7_takeHut 7 0 := ⟨rfl, cz_in (i := 810) (by decide +kernel) rfl, ini7, by decide +kernel, by decide +kernel, by decide +kernel⟩
theorem inX7_takeHut : Cond.instanceMethod (cz_nm mX7_takeHut) ∈ cz_T := cz_in (i := 809) (by decide +kernel) rfl
theorem seX7_takeHut : Cond.selects (cz_on 7) (cz_nm mX7_takeHut) (cz_nm mX7_takeHut) ∈ cz_T := cz_in (i := 21) (by decide +kernel) rfl
theorem myX7_takeSpan : cz_my mX7_takeSpan 7 0 := ⟨rfl, cz_in (i := 830) (by decide +kernel) rfl, ini7, by decide +kernel, by decide +kernel, by decide +kernel⟩
theorem inX7_takeSpan : Cond.instanceMethod (cz_nm mX7_takeSpan) ∈ cz_T := cz_in (i := 829) (by decide +kernel) rfl
theorem seX7_takeSpan : Cond.selects (cz_on 7) (cz_nm mX7_takeSpan) (cz_nm mX7_takeSpan) ∈ cz_T := cz_in (i := 25) (by decide +kernel) rfl
theorem myX7_lineWord : cz_my mX7_lineWord 7 1 := ⟨rfl, cz_in (i := 683) (by decide +kernel) rfl, ini7, by decide +kernel, by decide +kernel, by decide +kernel⟩
theorem inX7_lineWord : Cond.static (cz_nm mX7_lineWord) ∈ cz_T := cz_in (i := 682) (by decide +kernel) rfl
theorem myX7_sortOfWord : cz_my mX7_sortOfWord 7 0 := ⟨rfl, cz_in (i := 680) (by decide +kernel) rfl, ini7, by decide +kernel, by decide +kernel, by decide +kernel⟩
theorem inX7_sortOfWord : Cond.instanceMethod (cz_nm mX7_sortOfWord) ∈ cz_T := cz_in (i := 679) (by decide +kernel) rfl
theorem seX7_sortOfWord : Cond.selects (cz_on 7) (cz_nm mX7_sortOfWord) (cz_nm mX7_sortOfWord) ∈ cz_T := cz_in (i := 6) (by decide +kernel) rfl
theorem myX7_isToldAgain : cz_my mX7_isToldAgain 7 1 := ⟨rfl, cz_in (i := 753) (by decide +kernel) rfl, ini7, by decide +kernel, by decide +kernel, by decide +kernel⟩
theorem inX7_isToldAgain : Cond.instanceMethod (cz_nm mX7_isToldAgain) ∈ cz_T := cz_in (i := 752) (by decide +kernel) rfl
theorem seX7_isToldAgain : Cond.selects (cz_on 7) (cz_nm mX7_isToldAgain) (cz_nm mX7_isToldAgain) ∈ cz_T := cz_in (i := 8) (by decide +kernel) rfl
theorem myX7_isFull : cz_my mX7_isFull 7 1 := ⟨rfl, cz_in (i := 757) (by decide +kernel) rfl, ini7, by decide +kernel, by decide +kernel, by decide +kernel⟩
theorem inX7_isFull : Cond.instanceMethod (cz_nm mX7_isFull) ∈ cz_T := cz_in (i := 756) (by decide +kernel) rfl
theorem seX7_isFull : Cond.selects (cz_on 7) (cz_nm mX7_isFull) (cz_nm mX7_isFull) ∈ cz_T := cz_in (i := 9) (by decide +kernel) rfl
theorem myX7_readLine : cz_my mX7_readLine 7 0 := ⟨rfl, cz_in (i := 676) (by decide +kernel) rfl, ini7, by decide +kernel, by decide +kernel, by decide +kernel⟩
theorem inX7_readLine : Cond.instanceMethod (cz_nm mX7_readLine) ∈ cz_T := cz_in (i := 675) (by decide +kernel) rfl
theorem seX7_readLine : Cond.selects (cz_on 7) (cz_nm mX7_readLine) (cz_nm mX7_readLine) ∈ cz_T := cz_in (i := 5) (by decide +kernel) rfl
theorem myX7_readAlp : cz_my mX7_readAlp 7 0 := ⟨rfl, cz_in (i := 761) (by decide +kernel) rfl, ini7, by decide +kernel, by decide +kernel, by decide +kernel⟩
theorem inX7_readAlp : Cond.instanceMethod (cz_nm mX7_readAlp) ∈ cz_T := cz_in (i := 760) (by decide +kernel) rfl
theorem seX7_readAlp : Cond.selects (cz_on 7) (cz_nm mX7_readAlp) (cz_nm mX7_readAlp) ∈ cz_T := cz_in (i := 10) (by decide +kernel) rfl
theorem myX7_readEvent : cz_my mX7_readEvent 7 1 := ⟨rfl, cz_in (i := 851) (by decide +kernel) rfl, ini7, by decide +kernel, by decide +kernel, by decide +kernel⟩
theorem inX7_readEvent : Cond.instanceMethod (cz_nm mX7_readEvent) ∈ cz_T := cz_in (i := 850) (by decide +kernel) rfl
theorem seX7_readEvent : Cond.selects (cz_on 7) (cz_nm mX7_readEvent) (cz_nm mX7_readEvent) ∈ cz_T := cz_in (i := 28) (by decide +kernel) rfl
theorem myX7_readCheese : cz_my mX7_readCheese 7 0 := ⟨rfl, cz_in (i := 788) (by decide +kernel) rfl, ini7, by decide +kernel, by decide +kernel, by decide +kernel⟩
theorem inX7_readCheese : Cond.instanceMethod (cz_nm mX7_readCheese) ∈ cz_T := cz_in (i := 787) (by decide +kernel) rfl
theorem seX7_readCheese : Cond.selects (cz_on 7) (cz_nm mX7_readCheese) (cz_nm mX7_readCheese) ∈ cz_T := cz_in (i := 16) (by decide +kernel) rfl
theorem myX7_readTurner : cz_my mX7_readTurner 7 0 := ⟨rfl, cz_in (i := 818) (by decide +kernel) rfl, ini7, by decide +kernel, by decide +kernel, by decide +kernel⟩
theorem inX7_readTurner : Cond.instanceMethod (cz_nm mX7_readTurner) ∈ cz_T := cz_in (i := 817) (by decide +kernel) rfl
theorem seX7_readTurner : Cond.selects (cz_on 7) (cz_nm mX7_readTurner) (cz_nm mX7_readTurner) ∈ cz_T := cz_in (i := 23) (by decide +kernel) rfl
theorem myX7_turnerKind : cz_my mX7_turnerKind 7 0 := ⟨rfl, cz_in (i := 822) (by decide +kernel) rfl, ini7, by decide +kernel, by decide +kernel, by decide +kernel⟩
theorem inX7_turnerKind : Cond.instanceMethod (cz_nm mX7_turnerKind) ∈ cz_T := cz_in (i := 821) (by decide +kernel) rfl
theorem seX7_turnerKind : Cond.selects (cz_on 7) (cz_nm mX7_turnerKind) (cz_nm mX7_turnerKind) ∈ cz_T := cz_in (i := 24) (by decide +kernel) rfl
theorem myX7_readHuts : cz_my mX7_readHuts 7 1 := ⟨rfl, cz_in (i := 837) (by decide +kernel) rfl, ini7, by decide +kernel, by decide +kernel, by decide +kernel⟩
theorem inX7_readHuts : Cond.instanceMethod (cz_nm mX7_readHuts) ∈ cz_T := cz_in (i := 836) (by decide +kernel) rfl
theorem seX7_readHuts : Cond.selects (cz_on 7) (cz_nm mX7_readHuts) (cz_nm mX7_readHuts) ∈ cz_T := cz_in (i := 26) (by decide +kernel) rfl
theorem myX7_readCall : cz_my mX7_readCall 7 0 := ⟨rfl, cz_in (i := 844) (by decide +kernel) rfl, ini7, by decide +kernel, by decide +kernel, by decide +kernel⟩
theorem inX7_readCall : Cond.instanceMethod (cz_nm mX7_readCall) ∈ cz_T := cz_in (i := 843) (by decide +kernel) rfl
theorem seX7_readCall : Cond.selects (cz_on 7) (cz_nm mX7_readCall) (cz_nm mX7_readCall) ∈ cz_T := cz_in (i := 27) (by decide +kernel) rfl
theorem myX7_readMinutes : cz_my mX7_readMinutes 7 1 := ⟨rfl, cz_in (i := 814) (by decide +kernel) rfl, ini7, by decide +kernel, by decide +kernel, by decide +kernel⟩
theorem inX7_readMinutes : Cond.instanceMethod (cz_nm mX7_readMinutes) ∈ cz_T := cz_in (i := 813) (by decide +kernel) rfl
theorem seX7_readMinutes : Cond.selects (cz_on 7) (cz_nm mX7_readMinutes) (cz_nm mX7_readMinutes) ∈ cz_T := cz_in (i := 22) (by decide +kernel) rfl
theorem myX7_seesName : cz_my mX7_seesName 7 0 := ⟨rfl, cz_in (i := 796) (by decide +kernel) rfl, ini7, by decide +kernel, by decide +kernel, by decide +kernel⟩
theorem inX7_seesName : Cond.instanceMethod (cz_nm mX7_seesName) ∈ cz_T := cz_in (i := 795) (by decide +kernel) rfl
theorem seX7_seesName : Cond.selects (cz_on 7) (cz_nm mX7_seesName) (cz_nm mX7_seesName) ∈ cz_T := cz_in (i := 18) (by decide +kernel) rfl
theorem myX7_seesNewName : cz_my mX7_seesNewName 7 0 := ⟨rfl, cz_in (i := 792) (by decide +kernel) rfl, ini7, by decide +kernel, by decide +kernel, by decide +kernel⟩
theorem inX7_seesNewName : Cond.instanceMethod (cz_nm mX7_seesNewName) ∈ cz_T := cz_in (i := 791) (by decide +kernel) rfl
theorem seX7_seesNewName : Cond.selects (cz_on 7) (cz_nm mX7_seesNewName) (cz_nm mX7_seesNewName) ∈ cz_T := cz_in (i := 17) (by decide +kernel) rfl
theorem myX7_isToldCheese : cz_my mX7_isToldCheese 7 0 := ⟨rfl, cz_in (i := 801) (by decide +kernel) rfl, ini7, by decide +kernel, by decide +kernel, by decide +kernel⟩
theorem inX7_isToldCheese : Cond.instanceMethod (cz_nm mX7_isToldCheese) ∈ cz_T := cz_in (i := 800) (by decide +kernel) rfl
theorem seX7_isToldCheese : Cond.selects (cz_on 7) (cz_nm mX7_isToldCheese) (cz_nm mX7_isToldCheese) ∈ cz_T := cz_in (i := 19) (by decide +kernel) rfl
theorem myX7_namedTurner : cz_my mX7_namedTurner 7 0 := ⟨rfl, cz_in (i := 805) (by decide +kernel) rfl, ini7, by decide +kernel, by decide +kernel, by decide +kernel⟩
theorem inX7_namedTurner : Cond.instanceMethod (cz_nm mX7_namedTurner) ∈ cz_T := cz_in (i := 804) (by decide +kernel) rfl
theorem seX7_namedTurner : Cond.selects (cz_on 7) (cz_nm mX7_namedTurner) (cz_nm mX7_namedTurner) ∈ cz_T := cz_in (i := 20) (by decide +kernel) rfl
theorem myX8_init : cz_my mX8_init 8 0 := ⟨rfl, cz_in (i := 480) (by decide +kernel) rfl, ini8, by decide +kernel, by decide +kernel, by decide +kernel⟩
theorem inX8_init : Cond.instanceMethod (cz_nm mX8_init) ∈ cz_T := cz_in (i := 479) (by decide +kernel) rfl
theorem myX8_build : cz_my mX8_build 8 3 := ⟨rfl, cz_in (i := 891) (by decide +kernel) rfl, ini8, by decide +kernel, by decide +kernel, by decide +kernel⟩
theorem inX8_build : Cond.instanceMethod (cz_nm mX8_build) ∈ cz_T := cz_in (i := 889) (by decide +kernel) rfl
theorem seX8_build : Cond.selects (cz_on 8) (cz_nm mX8_build) (cz_nm mX8_build) ∈ cz_T := cz_in (i := 890) (by decide +kernel) rfl
theorem myX8_wipe : cz_my mX8_wipe 8 0 := ⟨rfl, cz_in (i := 895) (by decide +kernel) rfl, ini8, by decide +kernel, by decide +kernel, by decide +kernel⟩
theorem inX8_wipe : Cond.instanceMethod (cz_nm mX8_wipe) ∈ cz_T := cz_in (i := 894) (by decide +kernel) rfl
theorem seX8_wipe : Cond.selects (cz_on 8) (cz_nm mX8_wipe) (cz_nm mX8_wipe) ∈ cz_T := cz_in (i := 33) (by decide +kernel) rfl
theorem myX8_layCloud : cz_my mX8_layCloud 8 2 := ⟨rfl, cz_in (i := 903) (by decide +kernel) rfl, ini8, by decide +kernel, by decide +kernel, by decide +kernel⟩
theorem inX8_layCloud : Cond.instanceMethod (cz_nm mX8_layCloud) ∈ cz_T := cz_in (i := 902) (by decide +kernel) rfl
theorem seX8_layCloud : Cond.selects (cz_on 8) (cz_nm mX8_layCloud) (cz_nm mX8_layCloud) ∈ cz_T := cz_in (i := 35) (by decide +kernel) rfl
theorem myX8_layEvent : cz_my mX8_layEvent 8 1 := ⟨rfl, cz_in (i := 899) (by decide +kernel) rfl, ini8, by decide +kernel, by decide +kernel, by decide +kernel⟩
theorem inX8_layEvent : Cond.instanceMethod (cz_nm mX8_layEvent) ∈ cz_T := cz_in (i := 898) (by decide +kernel) rfl
theorem seX8_layEvent : Cond.selects (cz_on 8) (cz_nm mX8_layEvent) (cz_nm mX8_layEvent) ∈ cz_T := cz_in (i := 34) (by decide +kernel) rfl
theorem myX8_findLight : cz_my mX8_findLight 8 0 := ⟨rfl, cz_in (i := 907) (by decide +kernel) rfl, ini8, by decide +kernel, by decide +kernel, by decide +kernel⟩
theorem inX8_findLight : Cond.instanceMethod (cz_nm mX8_findLight) ∈ cz_T := cz_in (i := 906) (by decide +kernel) rfl
theorem seX8_findLight : Cond.selects (cz_on 8) (cz_nm mX8_findLight) (cz_nm mX8_findLight) ∈ cz_T := cz_in (i := 36) (by decide +kernel) rfl
theorem myX8_findStirs : cz_my mX8_findStirs 8 1 := ⟨rfl, cz_in (i := 915) (by decide +kernel) rfl, ini8, by decide +kernel, by decide +kernel, by decide +kernel⟩
theorem inX8_findStirs : Cond.instanceMethod (cz_nm mX8_findStirs) ∈ cz_T := cz_in (i := 914) (by decide +kernel) rfl
theorem seX8_findStirs : Cond.selects (cz_on 8) (cz_nm mX8_findStirs) (cz_nm mX8_findStirs) ∈ cz_T := cz_in (i := 37) (by decide +kernel) rfl
theorem myX8_isBright : cz_my mX8_isBright 8 1 := ⟨rfl, cz_in (i := 911) (by decide +kernel) rfl, ini8, by decide +kernel, by decide +kernel, by decide +kernel⟩
theorem inX8_isBright : Cond.instanceMethod (cz_nm mX8_isBright) ∈ cz_T := cz_in (i := 909) (by decide +kernel) rfl
theorem seX8_isBright : Cond.selects (cz_on 8) (cz_nm mX8_isBright) (cz_nm mX8_isBright) ∈ cz_T := cz_in (i := 910) (by decide +kernel) rfl
theorem myX8_crackingHuts : cz_my mX8_crackingHuts 8 1 := ⟨rfl, cz_in (i := 1007) (by decide +kernel) rfl, ini8, by decide +kernel, by decide +kernel, by decide +kernel⟩
theorem inX8_crackingHuts : Cond.instanceMethod (cz_nm mX8_crackingHuts) ∈ cz_T := cz_in (i := 1005) (by decide +kernel) rfl
theorem seX8_crackingHuts : Cond.selects (cz_on 8) (cz_nm mX8_crackingHuts) (cz_nm mX8_crackingHuts) ∈ cz_T := cz_in (i := 1006) (by decide +kernel) rfl
theorem myX9_init : cz_my mX9_init 9 0 := ⟨rfl, cz_in (i := 225) (by decide +kernel) rfl, ini9, by decide +kernel, by decide +kernel, by decide +kernel⟩
theorem inX9_init : Cond.instanceMethod (cz_nm mX9_init) ∈ cz_T := cz_in (i := 224) (by decide +kernel) rfl
theorem myX10_init : cz_my mX10_init 10 0 := ⟨rfl, cz_in (i := 158) (by decide +kernel) rfl, ini10, by decide +kernel, by decide +kernel, by decide +kernel⟩
theorem inX10_init : Cond.instanceMethod (cz_nm mX10_init) ∈ cz_T := cz_in (i := 157) (by decide +kernel) rfl
theorem myX10_feed : cz_my mX10_feed 10 5 := ⟨rfl, cz_in (i := 638) (by decide +kernel) rfl, ini10, by decide +kernel, by decide +kernel, by decide +kernel⟩
theorem inX10_feed : Cond.instanceMethod (cz_nm mX10_feed) ∈ cz_T := cz_in (i := 636) (by decide +kernel) rfl
theorem seX10_feed : Cond.selects (cz_on 10) (cz_nm mX10_feed) (cz_nm mX10_feed) ∈ cz_T := cz_in (i := 637) (by decide +kernel) rfl
theorem myX10_alp : cz_my mX10_alp 10 1 := ⟨rfl, cz_in (i := 646) (by decide +kernel) rfl, ini10, by decide +kernel, by decide +kernel, by decide +kernel⟩
theorem inX10_alp : Cond.instanceMethod (cz_nm mX10_alp) ∈ cz_T := cz_in (i := 644) (by decide +kernel) rfl
theorem seX10_alp : Cond.selects (cz_on 10) (cz_nm mX10_alp) (cz_nm mX10_alp) ∈ cz_T := cz_in (i := 645) (by decide +kernel) rfl
theorem myX10_fault : cz_my mX10_fault 10 0 := ⟨rfl, cz_in (i := 871) (by decide +kernel) rfl, ini10, by decide +kernel, by decide +kernel, by decide +kernel⟩
theorem inX10_fault : Cond.instanceMethod (cz_nm mX10_fault) ∈ cz_T := cz_in (i := 869) (by decide +kernel) rfl
theorem seX10_fault : Cond.selects (cz_on 10) (cz_nm mX10_fault) (cz_nm mX10_fault) ∈ cz_T := cz_in (i := 870) (by decide +kernel) rfl
theorem myX10_where : cz_my mX10_where 10 0 := ⟨rfl, cz_in (i := 875) (by decide +kernel) rfl, ini10, by decide +kernel, by decide +kernel, by decide +kernel⟩
theorem inX10_where : Cond.instanceMethod (cz_nm mX10_where) ∈ cz_T := cz_in (i := 873) (by decide +kernel) rfl
theorem seX10_where : Cond.selects (cz_on 10) (cz_nm mX10_where) (cz_nm mX10_where) ∈ cz_T := cz_in (i := 874) (by decide +kernel) rfl
theorem myX10_sky : cz_my mX10_sky 10 1 := ⟨rfl, cz_in (i := 879) (by decide +kernel) rfl, ini10, by decide +kernel, by decide +kernel, by decide +kernel⟩
theorem inX10_sky : Cond.instanceMethod (cz_nm mX10_sky) ∈ cz_T := cz_in (i := 877) (by decide +kernel) rfl
theorem seX10_sky : Cond.selects (cz_on 10) (cz_nm mX10_sky) (cz_nm mX10_sky) ∈ cz_T := cz_in (i := 878) (by decide +kernel) rfl
theorem myX10_light : cz_my mX10_light 10 3 := ⟨rfl, cz_in (i := 924) (by decide +kernel) rfl, ini10, by decide +kernel, by decide +kernel, by decide +kernel⟩
theorem inX10_light : Cond.instanceMethod (cz_nm mX10_light) ∈ cz_T := cz_in (i := 922) (by decide +kernel) rfl
theorem seX10_light : Cond.selects (cz_on 10) (cz_nm mX10_light) (cz_nm mX10_light) ∈ cz_T := cz_in (i := 923) (by decide +kernel) rfl
theorem myX10_changes : cz_my mX10_changes 10 2 := ⟨rfl, cz_in (i := 933) (by decide +kernel) rfl, ini10, by decide +kernel, by decide +kernel, by decide +kernel⟩
theorem inX10_changes : Cond.instanceMethod (cz_nm mX10_changes) ∈ cz_T := cz_in (i := 931) (by decide +kernel) rfl
theorem seX10_changes : Cond.selects (cz_on 10) (cz_nm mX10_changes) (cz_nm mX10_changes) ∈ cz_T := cz_in (i := 932) (by decide +kernel) rfl
theorem myX10_change : cz_my mX10_change 10 2 := ⟨rfl, cz_in (i := 937) (by decide +kernel) rfl, ini10, by decide +kernel, by decide +kernel, by decide +kernel⟩
theorem inX10_change : Cond.instanceMethod (cz_nm mX10_change) ∈ cz_T := cz_in (i := 935) (by decide +kernel) rfl
theorem seX10_change : Cond.selects (cz_on 10) (cz_nm mX10_change) (cz_nm mX10_change) ∈ cz_T := cz_in (i := 936) (by decide +kernel) rfl
theorem myX10_peak : cz_my mX10_peak 10 0 := ⟨rfl, cz_in (i := 941) (by decide +kernel) rfl, ini10, by decide +kernel, by decide +kernel, by decide +kernel⟩
theorem inX10_peak : Cond.instanceMethod (cz_nm mX10_peak) ∈ cz_T := cz_in (i := 939) (by decide +kernel) rfl
theorem seX10_peak : Cond.selects (cz_on 10) (cz_nm mX10_peak) (cz_nm mX10_peak) ∈ cz_T := cz_in (i := 940) (by decide +kernel) rfl
theorem myX10_due : cz_my mX10_due 10 1 := ⟨rfl, cz_in (i := 950) (by decide +kernel) rfl, ini10, by decide +kernel, by decide +kernel, by decide +kernel⟩
theorem inX10_due : Cond.instanceMethod (cz_nm mX10_due) ∈ cz_T := cz_in (i := 948) (by decide +kernel) rfl
theorem seX10_due : Cond.selects (cz_on 10) (cz_nm mX10_due) (cz_nm mX10_due) ∈ cz_T := cz_in (i := 949) (by decide +kernel) rfl
theorem myX10_awake : cz_my mX10_awake 10 2 := ⟨rfl, cz_in (i := 954) (by decide +kernel) rfl, ini10, by decide +kernel, by decide +kernel, by decide +kernel⟩
theorem inX10_awake : Cond.instanceMethod (cz_nm mX10_awake) ∈ cz_T := cz_in (i := 952) (by decide +kernel) rfl
theorem seX10_awake : Cond.selects (cz_on 10) (cz_nm mX10_awake) (cz_nm mX10_awake) ∈ cz_T := cz_in (i := 953) (by decide +kernel) rfl
theorem myX10_notices : cz_my mX10_notices 10 3 := ⟨rfl, cz_in (i := 1012) (by decide +kernel) rfl, ini10, by decide +kernel, by decide +kernel, by decide +kernel⟩
theorem inX10_notices : Cond.instanceMethod (cz_nm mX10_notices) ∈ cz_T := cz_in (i := 1010) (by decide +kernel) rfl
theorem seX10_notices : Cond.selects (cz_on 10) (cz_nm mX10_notices) (cz_nm mX10_notices) ∈ cz_T := cz_in (i := 1011) (by decide +kernel) rfl
theorem myX10_work : cz_my mX10_work 10 2 := ⟨rfl, cz_in (i := 1017) (by decide +kernel) rfl, ini10, by decide +kernel, by decide +kernel, by decide +kernel⟩
theorem inX10_work : Cond.instanceMethod (cz_nm mX10_work) ∈ cz_T := cz_in (i := 1015) (by decide +kernel) rfl
theorem seX10_work : Cond.selects (cz_on 10) (cz_nm mX10_work) (cz_nm mX10_work) ∈ cz_T := cz_in (i := 1016) (by decide +kernel) rfl
theorem myX10_worth : cz_my mX10_worth 10 1 := ⟨rfl, cz_in (i := 1025) (by decide +kernel) rfl, ini10, by decide +kernel, by decide +kernel, by decide +kernel⟩
theorem inX10_worth : Cond.instanceMethod (cz_nm mX10_worth) ∈ cz_T := cz_in (i := 1023) (by decide +kernel) rfl
theorem seX10_worth : Cond.selects (cz_on 10) (cz_nm mX10_worth) (cz_nm mX10_worth) ∈ cz_T := cz_in (i := 1024) (by decide +kernel) rfl
theorem myX10_turned : cz_my mX10_turned 10 2 := ⟨rfl, cz_in (i := 1049) (by decide +kernel) rfl, ini10, by decide +kernel, by decide +kernel, by decide +kernel⟩
theorem inX10_turned : Cond.instanceMethod (cz_nm mX10_turned) ∈ cz_T := cz_in (i := 1047) (by decide +kernel) rfl
theorem seX10_turned : Cond.selects (cz_on 10) (cz_nm mX10_turned) (cz_nm mX10_turned) ∈ cz_T := cz_in (i := 1048) (by decide +kernel) rfl
theorem myX10_up : cz_my mX10_up 10 2 := ⟨rfl, cz_in (i := 1061) (by decide +kernel) rfl, ini10, by decide +kernel, by decide +kernel, by decide +kernel⟩
theorem inX10_up : Cond.instanceMethod (cz_nm mX10_up) ∈ cz_T := cz_in (i := 1059) (by decide +kernel) rfl
theorem seX10_up : Cond.selects (cz_on 10) (cz_nm mX10_up) (cz_nm mX10_up) ∈ cz_T := cz_in (i := 1060) (by decide +kernel) rfl
theorem myX10_cheese : cz_my mX10_cheese 10 2 := ⟨rfl, cz_in (i := 1074) (by decide +kernel) rfl, ini10, by decide +kernel, by decide +kernel, by decide +kernel⟩
theorem inX10_cheese : Cond.instanceMethod (cz_nm mX10_cheese) ∈ cz_T := cz_in (i := 1072) (by decide +kernel) rfl
theorem seX10_cheese : Cond.selects (cz_on 10) (cz_nm mX10_cheese) (cz_nm mX10_cheese) ∈ cz_T := cz_in (i := 1073) (by decide +kernel) rfl
theorem myX10_vein : cz_my mX10_vein 10 2 := ⟨rfl, cz_in (i := 1079) (by decide +kernel) rfl, ini10, by decide +kernel, by decide +kernel, by decide +kernel⟩
theorem inX10_vein : Cond.instanceMethod (cz_nm mX10_vein) ∈ cz_T := cz_in (i := 1077) (by decide +kernel) rfl
theorem seX10_vein : Cond.selects (cz_on 10) (cz_nm mX10_vein) (cz_nm mX10_vein) ∈ cz_T := cz_in (i := 1078) (by decide +kernel) rfl
theorem myX10_cause : cz_my mX10_cause 10 2 := ⟨rfl, cz_in (i := 1091) (by decide +kernel) rfl, ini10, by decide +kernel, by decide +kernel, by decide +kernel⟩
theorem inX10_cause : Cond.instanceMethod (cz_nm mX10_cause) ∈ cz_T := cz_in (i := 1089) (by decide +kernel) rfl
theorem seX10_cause : Cond.selects (cz_on 10) (cz_nm mX10_cause) (cz_nm mX10_cause) ∈ cz_T := cz_in (i := 1090) (by decide +kernel) rfl
theorem myX10_total : cz_my mX10_total 10 0 := ⟨rfl, cz_in (i := 1107) (by decide +kernel) rfl, ini10, by decide +kernel, by decide +kernel, by decide +kernel⟩
theorem inX10_total : Cond.instanceMethod (cz_nm mX10_total) ∈ cz_T := cz_in (i := 1105) (by decide +kernel) rfl
theorem seX10_total : Cond.selects (cz_on 10) (cz_nm mX10_total) (cz_nm mX10_total) ∈ cz_T := cz_in (i := 1106) (by decide +kernel) rfl
theorem myX10_without : cz_my mX10_without 10 1 := ⟨rfl, cz_in (i := 1111) (by decide +kernel) rfl, ini10, by decide +kernel, by decide +kernel, by decide +kernel⟩
theorem inX10_without : Cond.instanceMethod (cz_nm mX10_without) ∈ cz_T := cz_in (i := 1109) (by decide +kernel) rfl
theorem seX10_without : Cond.selects (cz_on 10) (cz_nm mX10_without) (cz_nm mX10_without) ∈ cz_T := cz_in (i := 1110) (by decide +kernel) rfl
theorem myX10_wake : cz_my mX10_wake 10 0 := ⟨rfl, cz_in (i := 1119) (by decide +kernel) rfl, ini10, by decide +kernel, by decide +kernel, by decide +kernel⟩
theorem inX10_wake : Cond.instanceMethod (cz_nm mX10_wake) ∈ cz_T := cz_in (i := 1117) (by decide +kernel) rfl
theorem seX10_wake : Cond.selects (cz_on 10) (cz_nm mX10_wake) (cz_nm mX10_wake) ∈ cz_T := cz_in (i := 1118) (by decide +kernel) rfl
theorem myX10_wakeTotal : cz_my mX10_wakeTotal 10 0 := ⟨rfl, cz_in (i := 1137) (by decide +kernel) rfl, ini10, by decide +kernel, by decide +kernel, by decide +kernel⟩
theorem inX10_wakeTotal : Cond.instanceMethod (cz_nm mX10_wakeTotal) ∈ cz_T := cz_in (i := 1135) (by decide +kernel) rfl
theorem seX10_wakeTotal : Cond.selects (cz_on 10) (cz_nm mX10_wakeTotal) (cz_nm mX10_wakeTotal) ∈ cz_T := cz_in (i := 1136) (by decide +kernel) rfl
theorem myX10_fewest : cz_my mX10_fewest 10 0 := ⟨rfl, cz_in (i := 1141) (by decide +kernel) rfl, ini10, by decide +kernel, by decide +kernel, by decide +kernel⟩
theorem inX10_fewest : Cond.instanceMethod (cz_nm mX10_fewest) ∈ cz_T := cz_in (i := 1139) (by decide +kernel) rfl
theorem seX10_fewest : Cond.selects (cz_on 10) (cz_nm mX10_fewest) (cz_nm mX10_fewest) ∈ cz_T := cz_in (i := 1140) (by decide +kernel) rfl
theorem myX10_fewestBy : cz_my mX10_fewestBy 10 0 := ⟨rfl, cz_in (i := 1153) (by decide +kernel) rfl, ini10, by decide +kernel, by decide +kernel, by decide +kernel⟩
theorem inX10_fewestBy : Cond.instanceMethod (cz_nm mX10_fewestBy) ∈ cz_T := cz_in (i := 1151) (by decide +kernel) rfl
theorem seX10_fewestBy : Cond.selects (cz_on 10) (cz_nm mX10_fewestBy) (cz_nm mX10_fewestBy) ∈ cz_T := cz_in (i := 1152) (by decide +kernel) rfl
theorem myX10_fits : cz_my mX10_fits 10 1 := ⟨rfl, cz_in (i := 1157) (by decide +kernel) rfl, ini10, by decide +kernel, by decide +kernel, by decide +kernel⟩
theorem inX10_fits : Cond.instanceMethod (cz_nm mX10_fits) ∈ cz_T := cz_in (i := 1155) (by decide +kernel) rfl
theorem seX10_fits : Cond.selects (cz_on 10) (cz_nm mX10_fits) (cz_nm mX10_fits) ∈ cz_T := cz_in (i := 1156) (by decide +kernel) rfl
theorem myX10_by : cz_my mX10_by 10 1 := ⟨rfl, cz_in (i := 1173) (by decide +kernel) rfl, ini10, by decide +kernel, by decide +kernel, by decide +kernel⟩
theorem inX10_by : Cond.instanceMethod (cz_nm mX10_by) ∈ cz_T := cz_in (i := 1171) (by decide +kernel) rfl
theorem seX10_by : Cond.selects (cz_on 10) (cz_nm mX10_by) (cz_nm mX10_by) ∈ cz_T := cz_in (i := 1172) (by decide +kernel) rfl
theorem myX10_nights : cz_my mX10_nights 10 3 := ⟨rfl, cz_in (i := 1177) (by decide +kernel) rfl, ini10, by decide +kernel, by decide +kernel, by decide +kernel⟩
theorem inX10_nights : Cond.instanceMethod (cz_nm mX10_nights) ∈ cz_T := cz_in (i := 1175) (by decide +kernel) rfl
theorem seX10_nights : Cond.selects (cz_on 10) (cz_nm mX10_nights) (cz_nm mX10_nights) ∈ cz_T := cz_in (i := 1176) (by decide +kernel) rfl
theorem myX10_call : cz_my mX10_call 10 2 := ⟨rfl, cz_in (i := 1201) (by decide +kernel) rfl, ini10, by decide +kernel, by decide +kernel, by decide +kernel⟩
theorem inX10_call : Cond.instanceMethod (cz_nm mX10_call) ∈ cz_T := cz_in (i := 1199) (by decide +kernel) rfl
theorem seX10_call : Cond.selects (cz_on 10) (cz_nm mX10_call) (cz_nm mX10_call) ∈ cz_T := cz_in (i := 1200) (by decide +kernel) rfl
theorem myX10_calls : cz_my mX10_calls 10 0 := ⟨rfl, cz_in (i := 1225) (by decide +kernel) rfl, ini10, by decide +kernel, by decide +kernel, by decide +kernel⟩
theorem inX10_calls : Cond.instanceMethod (cz_nm mX10_calls) ∈ cz_T := cz_in (i := 1223) (by decide +kernel) rfl
theorem seX10_calls : Cond.selects (cz_on 10) (cz_nm mX10_calls) (cz_nm mX10_calls) ∈ cz_T := cz_in (i := 1224) (by decide +kernel) rfl
theorem myX10_cloud : cz_my mX10_cloud 10 2 := ⟨rfl, cz_in (i := 1229) (by decide +kernel) rfl, ini10, by decide +kernel, by decide +kernel, by decide +kernel⟩
theorem inX10_cloud : Cond.instanceMethod (cz_nm mX10_cloud) ∈ cz_T := cz_in (i := 1227) (by decide +kernel) rfl
theorem seX10_cloud : Cond.selects (cz_on 10) (cz_nm mX10_cloud) (cz_nm mX10_cloud) ∈ cz_T := cz_in (i := 1228) (by decide +kernel) rfl
theorem myX10_draw : cz_my mX10_draw 10 0 := ⟨rfl, cz_in (i := 1234) (by decide +kernel) rfl, ini10, by decide +kernel, by decide +kernel, by decide +kernel⟩
theorem inX10_draw : Cond.instanceMethod (cz_nm mX10_draw) ∈ cz_T := cz_in (i := 1232) (by decide +kernel) rfl
theorem seX10_draw : Cond.selects (cz_on 10) (cz_nm mX10_draw) (cz_nm mX10_draw) ∈ cz_T := cz_in (i := 1233) (by decide +kernel) rfl
theorem myX10_lift : cz_my mX10_lift 10 0 := ⟨rfl, cz_in (i := 1238) (by decide +kernel) rfl, ini10, by decide +kernel, by decide +kernel, by decide +kernel⟩
theorem inX10_lift : Cond.instanceMethod (cz_nm mX10_lift) ∈ cz_T := cz_in (i := 1236) (by decide +kernel) rfl
theorem seX10_lift : Cond.selects (cz_on 10) (cz_nm mX10_lift) (cz_nm mX10_lift) ∈ cz_T := cz_in (i := 1237) (by decide +kernel) rfl
theorem myX10_seed : cz_my mX10_seed 10 1 := ⟨rfl, cz_in (i := 1242) (by decide +kernel) rfl, ini10, by decide +kernel, by decide +kernel, by decide +kernel⟩
theorem inX10_seed : Cond.instanceMethod (cz_nm mX10_seed) ∈ cz_T := cz_in (i := 1240) (by decide +kernel) rfl
theorem seX10_seed : Cond.selects (cz_on 10) (cz_nm mX10_seed) (cz_nm mX10_seed) ∈ cz_T := cz_in (i := 1241) (by decide +kernel) rfl
theorem myX10_undo : cz_my mX10_undo 10 0 := ⟨rfl, cz_in (i := 1246) (by decide +kernel) rfl, ini10, by decide +kernel, by decide +kernel, by decide +kernel⟩
theorem inX10_undo : Cond.instanceMethod (cz_nm mX10_undo) ∈ cz_T := cz_in (i := 1244) (by decide +kernel) rfl
theorem seX10_undo : Cond.selects (cz_on 10) (cz_nm mX10_undo) (cz_nm mX10_undo) ∈ cz_T := cz_in (i := 1245) (by decide +kernel) rfl
theorem myX10_mark : cz_my mX10_mark 10 0 := ⟨rfl, cz_in (i := 1254) (by decide +kernel) rfl, ini10, by decide +kernel, by decide +kernel, by decide +kernel⟩
theorem inX10_mark : Cond.instanceMethod (cz_nm mX10_mark) ∈ cz_T := cz_in (i := 1252) (by decide +kernel) rfl
theorem seX10_mark : Cond.selects (cz_on 10) (cz_nm mX10_mark) (cz_nm mX10_mark) ∈ cz_T := cz_in (i := 1253) (by decide +kernel) rfl
theorem myX10_back : cz_my mX10_back 10 1 := ⟨rfl, cz_in (i := 1262) (by decide +kernel) rfl, ini10, by decide +kernel, by decide +kernel, by decide +kernel⟩
theorem inX10_back : Cond.instanceMethod (cz_nm mX10_back) ∈ cz_T := cz_in (i := 1260) (by decide +kernel) rfl
theorem seX10_back : Cond.selects (cz_on 10) (cz_nm mX10_back) (cz_nm mX10_back) ∈ cz_T := cz_in (i := 1261) (by decide +kernel) rfl
theorem myX10_event : cz_my mX10_event 10 2 := ⟨rfl, cz_in (i := 1270) (by decide +kernel) rfl, ini10, by decide +kernel, by decide +kernel, by decide +kernel⟩
theorem inX10_event : Cond.instanceMethod (cz_nm mX10_event) ∈ cz_T := cz_in (i := 1268) (by decide +kernel) rfl
theorem seX10_event : Cond.selects (cz_on 10) (cz_nm mX10_event) (cz_nm mX10_event) ∈ cz_T := cz_in (i := 1269) (by decide +kernel) rfl
theorem myX10_led : cz_my mX10_led 10 1 := ⟨rfl, cz_in (i := 1286) (by decide +kernel) rfl, ini10, by decide +kernel, by decide +kernel, by decide +kernel⟩
theorem inX10_led : Cond.instanceMethod (cz_nm mX10_led) ∈ cz_T := cz_in (i := 1284) (by decide +kernel) rfl
theorem seX10_led : Cond.selects (cz_on 10) (cz_nm mX10_led) (cz_nm mX10_led) ∈ cz_T := cz_in (i := 1285) (by decide +kernel) rfl
theorem myX10_size : cz_my mX10_size 10 1 := ⟨rfl, cz_in (i := 1274) (by decide +kernel) rfl, ini10, by decide +kernel, by decide +kernel, by decide +kernel⟩
theorem inX10_size : Cond.instanceMethod (cz_nm mX10_size) ∈ cz_T := cz_in (i := 1272) (by decide +kernel) rfl
theorem seX10_size : Cond.selects (cz_on 10) (cz_nm mX10_size) (cz_nm mX10_size) ∈ cz_T := cz_in (i := 1273) (by decide +kernel) rfl
theorem myX10_trouble : cz_my mX10_trouble 10 0 := ⟨rfl, cz_in (i := 1278) (by decide +kernel) rfl, ini10, by decide +kernel, by decide +kernel, by decide +kernel⟩
theorem inX10_trouble : Cond.instanceMethod (cz_nm mX10_trouble) ∈ cz_T := cz_in (i := 1276) (by decide +kernel) rfl
theorem seX10_trouble : Cond.selects (cz_on 10) (cz_nm mX10_trouble) (cz_nm mX10_trouble) ∈ cz_T := cz_in (i := 1277) (by decide +kernel) rfl
theorem myX10_answered : cz_my mX10_answered 10 1 := ⟨rfl, cz_in (i := 867) (by decide +kernel) rfl, ini10, by decide +kernel, by decide +kernel, by decide +kernel⟩
theorem inX10_answered : Cond.instanceMethod (cz_nm mX10_answered) ∈ cz_T := cz_in (i := 866) (by decide +kernel) rfl
theorem seX10_answered : Cond.selects (cz_on 10) (cz_nm mX10_answered) (cz_nm mX10_answered) ∈ cz_T := cz_in (i := 30) (by decide +kernel) rfl
theorem myX10_allowed : cz_my mX10_allowed 10 0 := ⟨rfl, cz_in (i := 1221) (by decide +kernel) rfl, ini10, by decide +kernel, by decide +kernel, by decide +kernel⟩
theorem inX10_allowed : Cond.instanceMethod (cz_nm mX10_allowed) ∈ cz_T := cz_in (i := 1220) (by decide +kernel) rfl
theorem seX10_allowed : Cond.selects (cz_on 10) (cz_nm mX10_allowed) (cz_nm mX10_allowed) ∈ cz_T := cz_in (i := 63) (by decide +kernel) rfl
theorem myX10_refused : cz_my mX10_refused 10 1 := ⟨rfl, cz_in (i := 650) (by decide +kernel) rfl, ini10, by decide +kernel, by decide +kernel, by decide +kernel⟩
theorem inX10_refused : Cond.instanceMethod (cz_nm mX10_refused) ∈ cz_T := cz_in (i := 649) (by decide +kernel) rfl
theorem seX10_refused : Cond.selects (cz_on 10) (cz_nm mX10_refused) (cz_nm mX10_refused) ∈ cz_T := cz_in (i := 1) (by decide +kernel) rfl
theorem myX10_refusedTotal : cz_my mX10_refusedTotal 10 1 := ⟨rfl, cz_in (i := 1029) (by decide +kernel) rfl, ini10, by decide +kernel, by decide +kernel, by decide +kernel⟩
theorem inX10_refusedTotal : Cond.instanceMethod (cz_nm mX10_refusedTotal) ∈ cz_T := cz_in (i := 1028) (by decide +kernel) rfl
theorem seX10_refusedTotal : Cond.selects (cz_on 10) (cz_nm mX10_refusedTotal) (cz_nm mX10_refusedTotal) ∈ cz_T := cz_in (i := 47) (by decide +kernel) rfl
theorem myX10_refusedAct : cz_my mX10_refusedAct 10 1 := ⟨rfl, cz_in (i := 1205) (by decide +kernel) rfl, ini10, by decide +kernel, by decide +kernel, by decide +kernel⟩
theorem inX10_refusedAct : Cond.instanceMethod (cz_nm mX10_refusedAct) ∈ cz_T := cz_in (i := 1204) (by decide +kernel) rfl
theorem seX10_refusedAct : Cond.selects (cz_on 10) (cz_nm mX10_refusedAct) (cz_nm mX10_refusedAct) ∈ cz_T := cz_in (i := 61) (by decide +kernel) rfl
theorem myX10_isMinute : cz_my mX10_isMinute 10 1 := ⟨rfl, cz_in (i := 883) (by decide +kernel) rfl, ini10, by decide +kernel, by decide +kernel, by decide +kernel⟩
theorem inX10_isMinute : Cond.instanceMethod (cz_nm mX10_isMinute) ∈ cz_T := cz_in (i := 882) (by decide +kernel) rfl
theorem seX10_isMinute : Cond.selects (cz_on 10) (cz_nm mX10_isMinute) (cz_nm mX10_isMinute) ∈ cz_T := cz_in (i := 31) (by decide +kernel) rfl
theorem myX10_isHut : cz_my mX10_isHut 10 1 := ⟨rfl, cz_in (i := 928) (by decide +kernel) rfl, ini10, by decide +kernel, by decide +kernel, by decide +kernel⟩
theorem inX10_isHut : Cond.instanceMethod (cz_nm mX10_isHut) ∈ cz_T := cz_in (i := 927) (by decide +kernel) rfl
theorem seX10_isHut : Cond.selects (cz_on 10) (cz_nm mX10_isHut) (cz_nm mX10_isHut) ∈ cz_T := cz_in (i := 38) (by decide +kernel) rfl
theorem myX10_isTurner : cz_my mX10_isTurner 10 1 := ⟨rfl, cz_in (i := 958) (by decide +kernel) rfl, ini10, by decide +kernel, by decide +kernel, by decide +kernel⟩
theorem inX10_isTurner : Cond.instanceMethod (cz_nm mX10_isTurner) ∈ cz_T := cz_in (i := 957) (by decide +kernel) rfl
theorem seX10_isTurner : Cond.selects (cz_on 10) (cz_nm mX10_isTurner) (cz_nm mX10_isTurner) ∈ cz_T := cz_in (i := 39) (by decide +kernel) rfl
theorem myX10_isCheese : cz_my mX10_isCheese 10 1 := ⟨rfl, cz_in (i := 1053) (by decide +kernel) rfl, ini10, by decide +kernel, by decide +kernel, by decide +kernel⟩
theorem inX10_isCheese : Cond.instanceMethod (cz_nm mX10_isCheese) ∈ cz_T := cz_in (i := 1052) (by decide +kernel) rfl
theorem seX10_isCheese : Cond.selects (cz_on 10) (cz_nm mX10_isCheese) (cz_nm mX10_isCheese) ∈ cz_T := cz_in (i := 48) (by decide +kernel) rfl
theorem myX10_isSlice : cz_my mX10_isSlice 10 1 := ⟨rfl, cz_in (i := 1161) (by decide +kernel) rfl, ini10, by decide +kernel, by decide +kernel, by decide +kernel⟩
theorem inX10_isSlice : Cond.instanceMethod (cz_nm mX10_isSlice) ∈ cz_T := cz_in (i := 1160) (by decide +kernel) rfl
theorem seX10_isSlice : Cond.selects (cz_on 10) (cz_nm mX10_isSlice) (cz_nm mX10_isSlice) ∈ cz_T := cz_in (i := 58) (by decide +kernel) rfl
theorem myX10_isEvent : cz_my mX10_isEvent 10 1 := ⟨rfl, cz_in (i := 1115) (by decide +kernel) rfl, ini10, by decide +kernel, by decide +kernel, by decide +kernel⟩
theorem inX10_isEvent : Cond.instanceMethod (cz_nm mX10_isEvent) ∈ cz_T := cz_in (i := 1114) (by decide +kernel) rfl
theorem seX10_isEvent : Cond.selects (cz_on 10) (cz_nm mX10_isEvent) (cz_nm mX10_isEvent) ∈ cz_T := cz_in (i := 54) (by decide +kernel) rfl
theorem myX10_isSeed : cz_my mX10_isSeed 10 1 := ⟨rfl, cz_in (i := 1180) (by decide +kernel) rfl, ini10, by decide +kernel, by decide +kernel, by decide +kernel⟩
theorem inX10_isSeed : Cond.static (cz_nm mX10_isSeed) ∈ cz_T := cz_in (i := 1179) (by decide +kernel) rfl
theorem myX10_bit : cz_my mX10_bit 10 2 := ⟨rfl, cz_in (i := 840) (by decide +kernel) rfl, ini10, by decide +kernel, by decide +kernel, by decide +kernel⟩
theorem inX10_bit : Cond.static (cz_nm mX10_bit) ∈ cz_T := cz_in (i := 839) (by decide +kernel) rfl
theorem myX10_putBytes : cz_my mX10_putBytes 10 1 := ⟨rfl, cz_in (i := 642) (by decide +kernel) rfl, ini10, by decide +kernel, by decide +kernel, by decide +kernel⟩
theorem inX10_putBytes : Cond.instanceMethod (cz_nm mX10_putBytes) ∈ cz_T := cz_in (i := 641) (by decide +kernel) rfl
theorem seX10_putBytes : Cond.selects (cz_on 10) (cz_nm mX10_putBytes) (cz_nm mX10_putBytes) ∈ cz_T := cz_in (i := 0) (by decide +kernel) rfl
theorem myX10_cloudsMoved : cz_my mX10_cloudsMoved 10 0 := ⟨rfl, cz_in (i := 863) (by decide +kernel) rfl, ini10, by decide +kernel, by decide +kernel, by decide +kernel⟩
theorem inX10_cloudsMoved : Cond.instanceMethod (cz_nm mX10_cloudsMoved) ∈ cz_T := cz_in (i := 862) (by decide +kernel) rfl
theorem seX10_cloudsMoved : Cond.selects (cz_on 10) (cz_nm mX10_cloudsMoved) (cz_nm mX10_cloudsMoved) ∈ cz_T := cz_in (i := 29) (by decide +kernel) rfl
theorem myX10_presentSky : cz_my mX10_presentSky 10 0 := ⟨rfl, cz_in (i := 887) (by decide +kernel) rfl, ini10, by decide +kernel, by decide +kernel, by decide +kernel⟩
theorem inX10_presentSky : Cond.instanceMethod (cz_nm mX10_presentSky) ∈ cz_T := cz_in (i := 886) (by decide +kernel) rfl
theorem seX10_presentSky : Cond.selects (cz_on 10) (cz_nm mX10_presentSky) (cz_nm mX10_presentSky) ∈ cz_T := cz_in (i := 32) (by decide +kernel) rfl
theorem myX10_presentNight : cz_my mX10_presentNight 10 0 := ⟨rfl, cz_in (i := 962) (by decide +kernel) rfl, ini10, by decide +kernel, by decide +kernel, by decide +kernel⟩
theorem inX10_presentNight : Cond.instanceMethod (cz_nm mX10_presentNight) ∈ cz_T := cz_in (i := 961) (by decide +kernel) rfl
theorem seX10_presentNight : Cond.selects (cz_on 10) (cz_nm mX10_presentNight) (cz_nm mX10_presentNight) ∈ cz_T := cz_in (i := 40) (by decide +kernel) rfl
theorem myX10_allTurners : cz_my mX10_allTurners 10 0 := ⟨rfl, cz_in (i := 966) (by decide +kernel) rfl, ini10, by decide +kernel, by decide +kernel, by decide +kernel⟩
theorem inX10_allTurners : Cond.instanceMethod (cz_nm mX10_allTurners) ∈ cz_T := cz_in (i := 965) (by decide +kernel) rfl
theorem seX10_allTurners : Cond.selects (cz_on 10) (cz_nm mX10_allTurners) (cz_nm mX10_allTurners) ∈ cz_T := cz_in (i := 41) (by decide +kernel) rfl
theorem myX10_allCalls : cz_my mX10_allCalls 10 0 := ⟨rfl, cz_in (i := 1127) (by decide +kernel) rfl, ini10, by decide +kernel, by decide +kernel, by decide +kernel⟩
theorem inX10_allCalls : Cond.instanceMethod (cz_nm mX10_allCalls) ∈ cz_T := cz_in (i := 1126) (by decide +kernel) rfl
theorem seX10_allCalls : Cond.selects (cz_on 10) (cz_nm mX10_allCalls) (cz_nm mX10_allCalls) ∈ cz_T := cz_in (i := 56) (by decide +kernel) rfl
theorem myX10_eventCount : cz_my mX10_eventCount 10 0 := ⟨rfl, cz_in (i := 1095) (by decide +kernel) rfl, ini10, by decide +kernel, by decide +kernel, by decide +kernel⟩
theorem inX10_eventCount : Cond.instanceMethod (cz_nm mX10_eventCount) ∈ cz_T := cz_in (i := 1094) (by decide +kernel) rfl
theorem seX10_eventCount : Cond.selects (cz_on 10) (cz_nm mX10_eventCount) (cz_nm mX10_eventCount) ∈ cz_T := cz_in (i := 51) (by decide +kernel) rfl
theorem myX10_eventFrom : cz_my mX10_eventFrom 10 1 := ⟨rfl, cz_in (i := 1099) (by decide +kernel) rfl, ini10, by decide +kernel, by decide +kernel, by decide +kernel⟩
theorem inX10_eventFrom : Cond.instanceMethod (cz_nm mX10_eventFrom) ∈ cz_T := cz_in (i := 1098) (by decide +kernel) rfl
theorem seX10_eventFrom : Cond.selects (cz_on 10) (cz_nm mX10_eventFrom) (cz_nm mX10_eventFrom) ∈ cz_T := cz_in (i := 52) (by decide +kernel) rfl
theorem myX10_eventTo : cz_my mX10_eventTo 10 1 := ⟨rfl, cz_in (i := 1103) (by decide +kernel) rfl, ini10, by decide +kernel, by decide +kernel, by decide +kernel⟩
theorem inX10_eventTo : Cond.instanceMethod (cz_nm mX10_eventTo) ∈ cz_T := cz_in (i := 1102) (by decide +kernel) rfl
theorem seX10_eventTo : Cond.selects (cz_on 10) (cz_nm mX10_eventTo) (cz_nm mX10_eventTo) ∈ cz_T := cz_in (i := 53) (by decide +kernel) rfl
theorem myX10_veinMinute : cz_my mX10_veinMinute 10 2 := ⟨rfl, cz_in (i := 1083) (by decide +kernel) rfl, ini10, by decide +kernel, by decide +kernel, by decide +kernel⟩
theorem inX10_veinMinute : Cond.instanceMethod (cz_nm mX10_veinMinute) ∈ cz_T := cz_in (i := 1082) (by decide +kernel) rfl
theorem seX10_veinMinute : Cond.selects (cz_on 10) (cz_nm mX10_veinMinute) (cz_nm mX10_veinMinute) ∈ cz_T := cz_in (i := 50) (by decide +kernel) rfl
theorem myX10_bestCalls : cz_my mX10_bestCalls 10 0 := ⟨rfl, cz_in (i := 1123) (by decide +kernel) rfl, ini10, by decide +kernel, by decide +kernel, by decide +kernel⟩
theorem inX10_bestCalls : Cond.instanceMethod (cz_nm mX10_bestCalls) ∈ cz_T := cz_in (i := 1122) (by decide +kernel) rfl
theorem seX10_bestCalls : Cond.selects (cz_on 10) (cz_nm mX10_bestCalls) (cz_nm mX10_bestCalls) ∈ cz_T := cz_in (i := 55) (by decide +kernel) rfl
theorem myX10_fewestTurners : cz_my mX10_fewestTurners 10 0 := ⟨rfl, cz_in (i := 1145) (by decide +kernel) rfl, ini10, by decide +kernel, by decide +kernel, by decide +kernel⟩
theorem inX10_fewestTurners : Cond.instanceMethod (cz_nm mX10_fewestTurners) ∈ cz_T := cz_in (i := 1144) (by decide +kernel) rfl
theorem seX10_fewestTurners : Cond.selects (cz_on 10) (cz_nm mX10_fewestTurners) (cz_nm mX10_fewestTurners) ∈ cz_T := cz_in (i := 57) (by decide +kernel) rfl
theorem myX11_init : cz_my mX11_init 11 0 := ⟨rfl, cz_in (i := 1487) (by decide +kernel) rfl, ini11, by decide +kernel, by decide +kernel, by decide +kernel⟩
theorem inX11_init : Cond.instanceMethod (cz_nm mX11_init) ∈ cz_T := cz_in (i := 1486) (by decide +kernel) rfl
theorem myX11_find : cz_my mX11_find 11 1 := ⟨rfl, cz_in (i := 1715) (by decide +kernel) rfl, ini11, by decide +kernel, by decide +kernel, by decide +kernel⟩
theorem inX11_find : Cond.instanceMethod (cz_nm mX11_find) ∈ cz_T := cz_in (i := 1713) (by decide +kernel) rfl
theorem seX11_find : Cond.selects (cz_on 11) (cz_nm mX11_find) (cz_nm mX11_find) ∈ cz_T := cz_in (i := 1714) (by decide +kernel) rfl
theorem myX12_init : cz_my mX12_init 12 0 := ⟨rfl, cz_in (i := 1356) (by decide +kernel) rfl, ini12, by decide +kernel, by decide +kernel, by decide +kernel⟩
theorem inX12_init : Cond.instanceMethod (cz_nm mX12_init) ∈ cz_T := cz_in (i := 1355) (by decide +kernel) rfl
theorem myX12_thrown : cz_my mX12_thrown 12 0 := ⟨rfl, cz_in (i := 1470) (by decide +kernel) rfl, ini12, by decide +kernel, by decide +kernel, by decide +kernel⟩
theorem inX12_thrown : Cond.instanceMethod (cz_nm mX12_thrown) ∈ cz_T := cz_in (i := 1468) (by decide +kernel) rfl
theorem seX12_thrown : Cond.selects (cz_on 12) (cz_nm mX12_thrown) (cz_nm mX12_thrown) ∈ cz_T := cz_in (i := 1469) (by decide +kernel) rfl
theorem myX12_refused : cz_my mX12_refused 12 1 := ⟨rfl, cz_in (i := 1482) (by decide +kernel) rfl, ini12, by decide +kernel, by decide +kernel, by decide +kernel⟩
theorem inX12_refused : Cond.instanceMethod (cz_nm mX12_refused) ∈ cz_T := cz_in (i := 1481) (by decide +kernel) rfl
theorem seX12_refused : Cond.selects (cz_on 12) (cz_nm mX12_refused) (cz_nm mX12_refused) ∈ cz_T := cz_in (i := 65) (by decide +kernel) rfl
theorem myX12_lost : cz_my mX12_lost 12 1 := ⟨rfl, cz_in (i := 1904) (by decide +kernel) rfl, ini12, by decide +kernel, by decide +kernel, by decide +kernel⟩
theorem inX12_lost : Cond.instanceMethod (cz_nm mX12_lost) ∈ cz_T := cz_in (i := 1903) (by decide +kernel) rfl
theorem seX12_lost : Cond.selects (cz_on 12) (cz_nm mX12_lost) (cz_nm mX12_lost) ∈ cz_T := cz_in (i := 114) (by decide +kernel) rfl
theorem myX12_denied : cz_my mX12_denied 12 1 := ⟨rfl, cz_in (i := 2020) (by decide +kernel) rfl, ini12, by decide +kernel, by decide +kernel, by decide +kernel⟩
theorem inX12_denied : Cond.instanceMethod (cz_nm mX12_denied) ∈ cz_T := cz_in (i := 2019) (by decide +kernel) rfl
theorem seX12_denied : Cond.selects (cz_on 12) (cz_nm mX12_denied) (cz_nm mX12_denied) ∈ cz_T := cz_in (i := 126) (by decide +kernel) rfl
theorem myX12_good : cz_my mX12_good 12 1 := ⟨rfl, cz_in (i := 1764) (by decide +kernel) rfl, ini12, by decide +kernel, by decide +kernel, by decide +kernel⟩
theorem inX12_good : Cond.instanceMethod (cz_nm mX12_good) ∈ cz_T := cz_in (i := 1763) (by decide +kernel) rfl
theorem seX12_good : Cond.selects (cz_on 12) (cz_nm mX12_good) (cz_nm mX12_good) ∈ cz_T := cz_in (i := 91) (by decide +kernel) rfl
theorem myX12_granted : cz_my mX12_granted 12 0 := ⟨rfl, cz_in (i := 2028) (by decide +kernel) rfl, ini12, by decide +kernel, by decide +kernel, by decide +kernel⟩
theorem inX12_granted : Cond.instanceMethod (cz_nm mX12_granted) ∈ cz_T := cz_in (i := 2027) (by decide +kernel) rfl
theorem seX12_granted : Cond.selects (cz_on 12) (cz_nm mX12_granted) (cz_nm mX12_granted) ∈ cz_T := cz_in (i := 128) (by decide +kernel) rfl
theorem myX12_in : cz_my mX12_in 12 3 := ⟨rfl, cz_in (i := 1673) (by decide +kernel) rfl, ini12, by decide +kernel, by decide +kernel, by decide +kernel⟩
theorem inX12_in : Cond.static (cz_nm mX12_in) ∈ cz_T := cz_in (i := 1672) (by decide +kernel) rfl
theorem myX12_has : cz_my mX12_has 12 2 := ⟨rfl, cz_in (i := 1749) (by decide +kernel) rfl, ini12, by decide +kernel, by decide +kernel, by decide +kernel⟩
theorem inX12_has : Cond.static (cz_nm mX12_has) ∈ cz_T := cz_in (i := 1748) (by decide +kernel) rfl
theorem myX12_bits : cz_my mX12_bits 12 1 := ⟨rfl, cz_in (i := 1956) (by decide +kernel) rfl, ini12, by decide +kernel, by decide +kernel, by decide +kernel⟩
theorem inX12_bits : Cond.static (cz_nm mX12_bits) ∈ cz_T := cz_in (i := 1955) (by decide +kernel) rfl
theorem myX12_byteAt : cz_my mX12_byteAt 12 1 := ⟨rfl, cz_in (i := 1620) (by decide +kernel) rfl, ini12, by decide +kernel, by decide +kernel, by decide +kernel⟩
theorem inX12_byteAt : Cond.instanceMethod (cz_nm mX12_byteAt) ∈ cz_T := cz_in (i := 1619) (by decide +kernel) rfl
theorem seX12_byteAt : Cond.selects (cz_on 12) (cz_nm mX12_byteAt) (cz_nm mX12_byteAt) ∈ cz_T := cz_in (i := 67) (by decide +kernel) rfl
theorem myX12_isLetter : cz_my mX12_isLetter 12 1 := ⟨rfl, cz_in (i := 1623) (by decide +kernel) rfl, ini12, by decide +kernel, by decide +kernel, by decide +kernel⟩
theorem inX12_isLetter : Cond.static (cz_nm mX12_isLetter) ∈ cz_T := cz_in (i := 1622) (by decide +kernel) rfl
theorem myX12_isDigit : cz_my mX12_isDigit 12 1 := ⟨rfl, cz_in (i := 1627) (by decide +kernel) rfl, ini12, by decide +kernel, by decide +kernel, by decide +kernel⟩
theorem inX12_isDigit : Cond.static (cz_nm mX12_isDigit) ∈ cz_T := cz_in (i := 1626) (by decide +kernel) rfl
theorem myX12_wordOf : cz_my mX12_wordOf 12 1 := ⟨rfl, cz_in (i := 1643) (by decide +kernel) rfl, ini12, by decide +kernel, by decide +kernel, by decide +kernel⟩
theorem inX12_wordOf : Cond.static (cz_nm mX12_wordOf) ∈ cz_T := cz_in (i := 1642) (by decide +kernel) rfl
theorem myX12_goesOn : cz_my mX12_goesOn 12 0 := ⟨rfl, cz_in (i := 1616) (by decide +kernel) rfl, ini12, by decide +kernel, by decide +kernel, by decide +kernel⟩
theorem inX12_goesOn : Cond.instanceMethod (cz_nm mX12_goesOn) ∈ cz_T := cz_in (i := 1615) (by decide +kernel) rfl
theorem seX12_goesOn : Cond.selects (cz_on 12) (cz_nm mX12_goesOn) (cz_nm mX12_goesOn) ∈ cz_T := cz_in (i := 66) (by decide +kernel) rfl
theorem myX12_flaw : cz_my mX12_flaw 12 1 := ⟨rfl, cz_in (i := 1653) (by decide +kernel) rfl, ini12, by decide +kernel, by decide +kernel, by decide +kernel⟩
theorem inX12_flaw : Cond.instanceMethod (cz_nm mX12_flaw) ∈ cz_T := cz_in (i := 1652) (by decide +kernel) rfl
theorem seX12_flaw : Cond.selects (cz_on 12) (cz_nm mX12_flaw) (cz_nm mX12_flaw) ∈ cz_T := cz_in (i := 72) (by decide +kernel) rfl
theorem myX12_isWord : cz_my mX12_isWord 12 1 := ⟨rfl, cz_in (i := 1640) (by decide +kernel) rfl, ini12, by decide +kernel, by decide +kernel, by decide +kernel⟩
theorem inX12_isWord : Cond.instanceMethod (cz_nm mX12_isWord) ∈ cz_T := cz_in (i := 1639) (by decide +kernel) rfl
theorem seX12_isWord : Cond.selects (cz_on 12) (cz_nm mX12_isWord) (cz_nm mX12_isWord) ∈ cz_T := cz_in (i := 70) (by decide +kernel) rfl
theorem myX12_eatsWord : cz_my mX12_eatsWord 12 1 := ⟨rfl, cz_in (i := 1720) (by decide +kernel) rfl, ini12, by decide +kernel, by decide +kernel, by decide +kernel⟩
theorem inX12_eatsWord : Cond.instanceMethod (cz_nm mX12_eatsWord) ∈ cz_T := cz_in (i := 1719) (by decide +kernel) rfl
theorem seX12_eatsWord : Cond.selects (cz_on 12) (cz_nm mX12_eatsWord) (cz_nm mX12_eatsWord) ∈ cz_T := cz_in (i := 83) (by decide +kernel) rfl
theorem myX12_eatsSign : cz_my mX12_eatsSign 12 1 := ⟨rfl, cz_in (i := 1736) (by decide +kernel) rfl, ini12, by decide +kernel, by decide +kernel, by decide +kernel⟩
theorem inX12_eatsSign : Cond.instanceMethod (cz_nm mX12_eatsSign) ∈ cz_T := cz_in (i := 1735) (by decide +kernel) rfl
theorem seX12_eatsSign : Cond.selects (cz_on 12) (cz_nm mX12_eatsSign) (cz_nm mX12_eatsSign) ∈ cz_T := cz_in (i := 87) (by decide +kernel) rfl
theorem myX12_needs : cz_my mX12_needs 12 1 := ⟨rfl, cz_in (i := 1662) (by decide +kernel) rfl, ini12, by decide +kernel, by decide +kernel, by decide +kernel⟩
theorem inX12_needs : Cond.instanceMethod (cz_nm mX12_needs) ∈ cz_T := cz_in (i := 1661) (by decide +kernel) rfl
theorem seX12_needs : Cond.selects (cz_on 12) (cz_nm mX12_needs) (cz_nm mX12_needs) ∈ cz_T := cz_in (i := 74) (by decide +kernel) rfl
theorem myX12_needsSign : cz_my mX12_needsSign 12 1 := ⟨rfl, cz_in (i := 1679) (by decide +kernel) rfl, ini12, by decide +kernel, by decide +kernel, by decide +kernel⟩
theorem inX12_needsSign : Cond.instanceMethod (cz_nm mX12_needsSign) ∈ cz_T := cz_in (i := 1678) (by decide +kernel) rfl
theorem seX12_needsSign : Cond.selects (cz_on 12) (cz_nm mX12_needsSign) (cz_nm mX12_needsSign) ∈ cz_T := cz_in (i := 77) (by decide +kernel) rfl
theorem myX12_bounded : cz_my mX12_bounded 12 2 := ⟨rfl, cz_in (i := 1670) (by decide +kernel) rfl, ini12, by decide +kernel, by decide +kernel, by decide +kernel⟩
theorem inX12_bounded : Cond.instanceMethod (cz_nm mX12_bounded) ∈ cz_T := cz_in (i := 1669) (by decide +kernel) rfl
theorem seX12_bounded : Cond.selects (cz_on 12) (cz_nm mX12_bounded) (cz_nm mX12_bounded) ∈ cz_T := cz_in (i := 76) (by decide +kernel) rfl
theorem myX12_readWhole : cz_my mX12_readWhole 12 2 := ⟨rfl, cz_in (i := 1666) (by decide +kernel) rfl, ini12, by decide +kernel, by decide +kernel, by decide +kernel⟩
theorem inX12_readWhole : Cond.instanceMethod (cz_nm mX12_readWhole) ∈ cz_T := cz_in (i := 1665) (by decide +kernel) rfl
theorem seX12_readWhole : Cond.selects (cz_on 12) (cz_nm mX12_readWhole) (cz_nm mX12_readWhole) ∈ cz_T := cz_in (i := 75) (by decide +kernel) rfl
theorem myX12_readPart : cz_my mX12_readPart 12 3 := ⟨rfl, cz_in (i := 1658) (by decide +kernel) rfl, ini12, by decide +kernel, by decide +kernel, by decide +kernel⟩
theorem inX12_readPart : Cond.instanceMethod (cz_nm mX12_readPart) ∈ cz_T := cz_in (i := 1657) (by decide +kernel) rfl
theorem seX12_readPart : Cond.selects (cz_on 12) (cz_nm mX12_readPart) (cz_nm mX12_readPart) ∈ cz_T := cz_in (i := 73) (by decide +kernel) rfl
theorem myX12_isName : cz_my mX12_isName 12 0 := ⟨rfl, cz_in (i := 1706) (by decide +kernel) rfl, ini12, by decide +kernel, by decide +kernel, by decide +kernel⟩
theorem inX12_isName : Cond.instanceMethod (cz_nm mX12_isName) ∈ cz_T := cz_in (i := 1705) (by decide +kernel) rfl
theorem seX12_isName : Cond.selects (cz_on 12) (cz_nm mX12_isName) (cz_nm mX12_isName) ∈ cz_T := cz_in (i := 82) (by decide +kernel) rfl
theorem myX12_begins : cz_my mX12_begins 12 2 := ⟨rfl, cz_in (i := 1688) (by decide +kernel) rfl, ini12, by decide +kernel, by decide +kernel, by decide +kernel⟩
theorem inX12_begins : Cond.instanceMethod (cz_nm mX12_begins) ∈ cz_T := cz_in (i := 1687) (by decide +kernel) rfl
theorem seX12_begins : Cond.selects (cz_on 12) (cz_nm mX12_begins) (cz_nm mX12_begins) ∈ cz_T := cz_in (i := 79) (by decide +kernel) rfl
theorem myX12_readFresh : cz_my mX12_readFresh 12 0 := ⟨rfl, cz_in (i := 1702) (by decide +kernel) rfl, ini12, by decide +kernel, by decide +kernel, by decide +kernel⟩
theorem inX12_readFresh : Cond.instanceMethod (cz_nm mX12_readFresh) ∈ cz_T := cz_in (i := 1701) (by decide +kernel) rfl
theorem seX12_readFresh : Cond.selects (cz_on 12) (cz_nm mX12_readFresh) (cz_nm mX12_readFresh) ∈ cz_T := cz_in (i := 81) (by decide +kernel) rfl
theorem myX12_names : cz_my mX12_names 12 3 := ⟨rfl, cz_in (i := 1724) (by decide +kernel) rfl, ini12, by decide +kernel, by decide +kernel, by decide +kernel⟩
theorem inX12_names : Cond.instanceMethod (cz_nm mX12_names) ∈ cz_T := cz_in (i := 1723) (by decide +kernel) rfl
theorem seX12_names : Cond.selects (cz_on 12) (cz_nm mX12_names) (cz_nm mX12_names) ∈ cz_T := cz_in (i := 84) (by decide +kernel) rfl
theorem myX12_readAll : cz_my mX12_readAll 12 0 := ⟨rfl, cz_in (i := 1631) (by decide +kernel) rfl, ini12, by decide +kernel, by decide +kernel, by decide +kernel⟩
theorem inX12_readAll : Cond.instanceMethod (cz_nm mX12_readAll) ∈ cz_T := cz_in (i := 1630) (by decide +kernel) rfl
theorem seX12_readAll : Cond.selects (cz_on 12) (cz_nm mX12_readAll) (cz_nm mX12_readAll) ∈ cz_T := cz_in (i := 68) (by decide +kernel) rfl
theorem myX12_readLine : cz_my mX12_readLine 12 0 := ⟨rfl, cz_in (i := 1635) (by decide +kernel) rfl, ini12, by decide +kernel, by decide +kernel, by decide +kernel⟩
theorem inX12_readLine : Cond.instanceMethod (cz_nm mX12_readLine) ∈ cz_T := cz_in (i := 1634) (by decide +kernel) rfl
theorem seX12_readLine : Cond.selects (cz_on 12) (cz_nm mX12_readLine) (cz_nm mX12_readLine) ∈ cz_T := cz_in (i := 69) (by decide +kernel) rfl
theorem myX12_readAlp : cz_my mX12_readAlp 12 0 := ⟨rfl, cz_in (i := 1649) (by decide +kernel) rfl, ini12, by decide +kernel, by decide +kernel, by decide +kernel⟩
theorem inX12_readAlp : Cond.instanceMethod (cz_nm mX12_readAlp) ∈ cz_T := cz_in (i := 1648) (by decide +kernel) rfl
theorem seX12_readAlp : Cond.selects (cz_on 12) (cz_nm mX12_readAlp) (cz_nm mX12_readAlp) ∈ cz_T := cz_in (i := 71) (by decide +kernel) rfl
theorem myX12_readEvent : cz_my mX12_readEvent 12 1 := ⟨rfl, cz_in (i := 1684) (by decide +kernel) rfl, ini12, by decide +kernel, by decide +kernel, by decide +kernel⟩
theorem inX12_readEvent : Cond.instanceMethod (cz_nm mX12_readEvent) ∈ cz_T := cz_in (i := 1683) (by decide +kernel) rfl
theorem seX12_readEvent : Cond.selects (cz_on 12) (cz_nm mX12_readEvent) (cz_nm mX12_readEvent) ∈ cz_T := cz_in (i := 78) (by decide +kernel) rfl
theorem myX12_readCheese : cz_my mX12_readCheese 12 0 := ⟨rfl, cz_in (i := 1698) (by decide +kernel) rfl, ini12, by decide +kernel, by decide +kernel, by decide +kernel⟩
theorem inX12_readCheese : Cond.instanceMethod (cz_nm mX12_readCheese) ∈ cz_T := cz_in (i := 1697) (by decide +kernel) rfl
theorem seX12_readCheese : Cond.selects (cz_on 12) (cz_nm mX12_readCheese) (cz_nm mX12_readCheese) ∈ cz_T := cz_in (i := 80) (by decide +kernel) rfl
theorem myX12_readRising : cz_my mX12_readRising 12 3 := ⟨rfl, cz_in (i := 1732) (by decide +kernel) rfl, ini12, by decide +kernel, by decide +kernel, by decide +kernel⟩
theorem inX12_readRising : Cond.instanceMethod (cz_nm mX12_readRising) ∈ cz_T := cz_in (i := 1731) (by decide +kernel) rfl
theorem seX12_readRising : Cond.selects (cz_on 12) (cz_nm mX12_readRising) (cz_nm mX12_readRising) ∈ cz_T := cz_in (i := 86) (by decide +kernel) rfl
theorem myX12_readAlmanac : cz_my mX12_readAlmanac 12 0 := ⟨rfl, cz_in (i := 1728) (by decide +kernel) rfl, ini12, by decide +kernel, by decide +kernel, by decide +kernel⟩
theorem inX12_readAlmanac : Cond.instanceMethod (cz_nm mX12_readAlmanac) ∈ cz_T := cz_in (i := 1727) (by decide +kernel) rfl
theorem seX12_readAlmanac : Cond.selects (cz_on 12) (cz_nm mX12_readAlmanac) (cz_nm mX12_readAlmanac) ∈ cz_T := cz_in (i := 85) (by decide +kernel) rfl
theorem myX12_readTurner : cz_my mX12_readTurner 12 0 := ⟨rfl, cz_in (i := 1740) (by decide +kernel) rfl, ini12, by decide +kernel, by decide +kernel, by decide +kernel⟩
theorem inX12_readTurner : Cond.instanceMethod (cz_nm mX12_readTurner) ∈ cz_T := cz_in (i := 1739) (by decide +kernel) rfl
theorem seX12_readTurner : Cond.selects (cz_on 12) (cz_nm mX12_readTurner) (cz_nm mX12_readTurner) ∈ cz_T := cz_in (i := 88) (by decide +kernel) rfl
theorem myX12_readCall : cz_my mX12_readCall 12 0 := ⟨rfl, cz_in (i := 1753) (by decide +kernel) rfl, ini12, by decide +kernel, by decide +kernel, by decide +kernel⟩
theorem inX12_readCall : Cond.instanceMethod (cz_nm mX12_readCall) ∈ cz_T := cz_in (i := 1752) (by decide +kernel) rfl
theorem seX12_readCall : Cond.selects (cz_on 12) (cz_nm mX12_readCall) (cz_nm mX12_readCall) ∈ cz_T := cz_in (i := 89) (by decide +kernel) rfl
theorem myX12_readSlice : cz_my mX12_readSlice 12 0 := ⟨rfl, cz_in (i := 1760) (by decide +kernel) rfl, ini12, by decide +kernel, by decide +kernel, by decide +kernel⟩
theorem inX12_readSlice : Cond.instanceMethod (cz_nm mX12_readSlice) ∈ cz_T := cz_in (i := 1759) (by decide +kernel) rfl
theorem seX12_readSlice : Cond.selects (cz_on 12) (cz_nm mX12_readSlice) (cz_nm mX12_readSlice) ∈ cz_T := cz_in (i := 90) (by decide +kernel) rfl
theorem myX12_feed : cz_my mX12_feed 12 5 := ⟨rfl, cz_in (i := 1474) (by decide +kernel) rfl, ini12, by decide +kernel, by decide +kernel, by decide +kernel⟩
theorem inX12_feed : Cond.instanceMethod (cz_nm mX12_feed) ∈ cz_T := cz_in (i := 1472) (by decide +kernel) rfl
theorem seX12_feed : Cond.selects (cz_on 12) (cz_nm mX12_feed) (cz_nm mX12_feed) ∈ cz_T := cz_in (i := 1473) (by decide +kernel) rfl
theorem myX12_alp : cz_my mX12_alp 12 1 := ⟨rfl, cz_in (i := 1478) (by decide +kernel) rfl, ini12, by decide +kernel, by decide +kernel, by decide +kernel⟩
theorem inX12_alp : Cond.instanceMethod (cz_nm mX12_alp) ∈ cz_T := cz_in (i := 1476) (by decide +kernel) rfl
theorem seX12_alp : Cond.selects (cz_on 12) (cz_nm mX12_alp) (cz_nm mX12_alp) ∈ cz_T := cz_in (i := 1477) (by decide +kernel) rfl
theorem myX12_fault : cz_my mX12_fault 12 0 := ⟨rfl, cz_in (i := 1768) (by decide +kernel) rfl, ini12, by decide +kernel, by decide +kernel, by decide +kernel⟩
theorem inX12_fault : Cond.instanceMethod (cz_nm mX12_fault) ∈ cz_T := cz_in (i := 1766) (by decide +kernel) rfl
theorem seX12_fault : Cond.selects (cz_on 12) (cz_nm mX12_fault) (cz_nm mX12_fault) ∈ cz_T := cz_in (i := 1767) (by decide +kernel) rfl
theorem myX12_where : cz_my mX12_where 12 0 := ⟨rfl, cz_in (i := 1772) (by decide +kernel) rfl, ini12, by decide +kernel, by decide +kernel, by decide +kernel⟩
theorem inX12_where : Cond.instanceMethod (cz_nm mX12_where) ∈ cz_T := cz_in (i := 1770) (by decide +kernel) rfl
theorem seX12_where : Cond.selects (cz_on 12) (cz_nm mX12_where) (cz_nm mX12_where) ∈ cz_T := cz_in (i := 1771) (by decide +kernel) rfl
theorem myX12_events : cz_my mX12_events 12 0 := ⟨rfl, cz_in (i := 1788) (by decide +kernel) rfl, ini12, by decide +kernel, by decide +kernel, by decide +kernel⟩
theorem inX12_events : Cond.instanceMethod (cz_nm mX12_events) ∈ cz_T := cz_in (i := 1787) (by decide +kernel) rfl
theorem seX12_events : Cond.selects (cz_on 12) (cz_nm mX12_events) (cz_nm mX12_events) ∈ cz_T := cz_in (i := 94) (by decide +kernel) rfl
theorem myX12_kindOf : cz_my mX12_kindOf 12 1 := ⟨rfl, cz_in (i := 1804) (by decide +kernel) rfl, ini12, by decide +kernel, by decide +kernel, by decide +kernel⟩
theorem inX12_kindOf : Cond.instanceMethod (cz_nm mX12_kindOf) ∈ cz_T := cz_in (i := 1803) (by decide +kernel) rfl
theorem seX12_kindOf : Cond.selects (cz_on 12) (cz_nm mX12_kindOf) (cz_nm mX12_kindOf) ∈ cz_T := cz_in (i := 98) (by decide +kernel) rfl
theorem myX12_hutOf : cz_my mX12_hutOf 12 1 := ⟨rfl, cz_in (i := 1808) (by decide +kernel) rfl, ini12, by decide +kernel, by decide +kernel, by decide +kernel⟩
theorem inX12_hutOf : Cond.instanceMethod (cz_nm mX12_hutOf) ∈ cz_T := cz_in (i := 1807) (by decide +kernel) rfl
theorem seX12_hutOf : Cond.selects (cz_on 12) (cz_nm mX12_hutOf) (cz_nm mX12_hutOf) ∈ cz_T := cz_in (i := 99) (by decide +kernel) rfl
theorem myX12_fromOf : cz_my mX12_fromOf 12 1 := ⟨rfl, cz_in (i := 1792) (by decide +kernel) rfl, ini12, by decide +kernel, by decide +kernel, by decide +kernel⟩
theorem inX12_fromOf : Cond.instanceMethod (cz_nm mX12_fromOf) ∈ cz_T := cz_in (i := 1791) (by decide +kernel) rfl
theorem seX12_fromOf : Cond.selects (cz_on 12) (cz_nm mX12_fromOf) (cz_nm mX12_fromOf) ∈ cz_T := cz_in (i := 95) (by decide +kernel) rfl
theorem myX12_toOf : cz_my mX12_toOf 12 1 := ⟨rfl, cz_in (i := 1796) (by decide +kernel) rfl, ini12, by decide +kernel, by decide +kernel, by decide +kernel⟩
theorem inX12_toOf : Cond.instanceMethod (cz_nm mX12_toOf) ∈ cz_T := cz_in (i := 1795) (by decide +kernel) rfl
theorem seX12_toOf : Cond.selects (cz_on 12) (cz_nm mX12_toOf) (cz_nm mX12_toOf) ∈ cz_T := cz_in (i := 96) (by decide +kernel) rfl
theorem myX12_laysLight : cz_my mX12_laysLight 12 1 := ⟨rfl, cz_in (i := 1784) (by decide +kernel) rfl, ini12, by decide +kernel, by decide +kernel, by decide +kernel⟩
theorem inX12_laysLight : Cond.instanceMethod (cz_nm mX12_laysLight) ∈ cz_T := cz_in (i := 1783) (by decide +kernel) rfl
theorem seX12_laysLight : Cond.selects (cz_on 12) (cz_nm mX12_laysLight) (cz_nm mX12_laysLight) ∈ cz_T := cz_in (i := 93) (by decide +kernel) rfl
theorem myX12_marksLight : cz_my mX12_marksLight 12 2 := ⟨rfl, cz_in (i := 1800) (by decide +kernel) rfl, ini12, by decide +kernel, by decide +kernel, by decide +kernel⟩
theorem inX12_marksLight : Cond.instanceMethod (cz_nm mX12_marksLight) ∈ cz_T := cz_in (i := 1799) (by decide +kernel) rfl
theorem seX12_marksLight : Cond.selects (cz_on 12) (cz_nm mX12_marksLight) (cz_nm mX12_marksLight) ∈ cz_T := cz_in (i := 97) (by decide +kernel) rfl
theorem myX12_changesIn : cz_my mX12_changesIn 12 2 := ⟨rfl, cz_in (i := 1828) (by decide +kernel) rfl, ini12, by decide +kernel, by decide +kernel, by decide +kernel⟩
theorem inX12_changesIn : Cond.instanceMethod (cz_nm mX12_changesIn) ∈ cz_T := cz_in (i := 1827) (by decide +kernel) rfl
theorem seX12_changesIn : Cond.selects (cz_on 12) (cz_nm mX12_changesIn) (cz_nm mX12_changesIn) ∈ cz_T := cz_in (i := 102) (by decide +kernel) rfl
theorem myX12_seemsToIn : cz_my mX12_seemsToIn 12 2 := ⟨rfl, cz_in (i := 1824) (by decide +kernel) rfl, ini12, by decide +kernel, by decide +kernel, by decide +kernel⟩
theorem inX12_seemsToIn : Cond.instanceMethod (cz_nm mX12_seemsToIn) ∈ cz_T := cz_in (i := 1823) (by decide +kernel) rfl
theorem seX12_seemsToIn : Cond.selects (cz_on 12) (cz_nm mX12_seemsToIn) (cz_nm mX12_seemsToIn) ∈ cz_T := cz_in (i := 101) (by decide +kernel) rfl
theorem myX12_isInAlmanac : cz_my mX12_isInAlmanac 12 1 := ⟨rfl, cz_in (i := 1868) (by decide +kernel) rfl, ini12, by decide +kernel, by decide +kernel, by decide +kernel⟩
theorem inX12_isInAlmanac : Cond.instanceMethod (cz_nm mX12_isInAlmanac) ∈ cz_T := cz_in (i := 1867) (by decide +kernel) rfl
theorem seX12_isInAlmanac : Cond.selects (cz_on 12) (cz_nm mX12_isInAlmanac) (cz_nm mX12_isInAlmanac) ∈ cz_T := cz_in (i := 107) (by decide +kernel) rfl
theorem myX12_noticesIn : cz_my mX12_noticesIn 12 3 := ⟨rfl, cz_in (i := 1864) (by decide +kernel) rfl, ini12, by decide +kernel, by decide +kernel, by decide +kernel⟩
theorem inX12_noticesIn : Cond.instanceMethod (cz_nm mX12_noticesIn) ∈ cz_T := cz_in (i := 1863) (by decide +kernel) rfl
theorem seX12_noticesIn : Cond.selects (cz_on 12) (cz_nm mX12_noticesIn) (cz_nm mX12_noticesIn) ∈ cz_T := cz_in (i := 106) (by decide +kernel) rfl
theorem myX12_isAwake : cz_my mX12_isAwake 12 3 := ⟨rfl, cz_in (i := 1856) (by decide +kernel) rfl, ini12, by decide +kernel, by decide +kernel, by decide +kernel⟩
theorem inX12_isAwake : Cond.instanceMethod (cz_nm mX12_isAwake) ∈ cz_T := cz_in (i := 1855) (by decide +kernel) rfl
theorem seX12_isAwake : Cond.selects (cz_on 12) (cz_nm mX12_isAwake) (cz_nm mX12_isAwake) ∈ cz_T := cz_in (i := 105) (by decide +kernel) rfl
theorem myX12_goes : cz_my mX12_goes 12 2 := ⟨rfl, cz_in (i := 1884) (by decide +kernel) rfl, ini12, by decide +kernel, by decide +kernel, by decide +kernel⟩
theorem inX12_goes : Cond.instanceMethod (cz_nm mX12_goes) ∈ cz_T := cz_in (i := 1883) (by decide +kernel) rfl
theorem seX12_goes : Cond.selects (cz_on 12) (cz_nm mX12_goes) (cz_nm mX12_goes) ∈ cz_T := cz_in (i := 110) (by decide +kernel) rfl
theorem myX12_turns : cz_my mX12_turns 12 2 := ⟨rfl, cz_in (i := 1888) (by decide +kernel) rfl, ini12, by decide +kernel, by decide +kernel, by decide +kernel⟩
theorem inX12_turns : Cond.instanceMethod (cz_nm mX12_turns) ∈ cz_T := cz_in (i := 1887) (by decide +kernel) rfl
theorem seX12_turns : Cond.selects (cz_on 12) (cz_nm mX12_turns) (cz_nm mX12_turns) ∈ cz_T := cz_in (i := 111) (by decide +kernel) rfl
theorem myX12_notes : cz_my mX12_notes 12 2 := ⟨rfl, cz_in (i := 1892) (by decide +kernel) rfl, ini12, by decide +kernel, by decide +kernel, by decide +kernel⟩
theorem inX12_notes : Cond.instanceMethod (cz_nm mX12_notes) ∈ cz_T := cz_in (i := 1891) (by decide +kernel) rfl
theorem seX12_notes : Cond.selects (cz_on 12) (cz_nm mX12_notes) (cz_nm mX12_notes) ∈ cz_T := cz_in (i := 112) (by decide +kernel) rfl
theorem myX12_priceOf : cz_my mX12_priceOf 12 1 := ⟨rfl, cz_in (i := 1896) (by decide +kernel) rfl, ini12, by decide +kernel, by decide +kernel, by decide +kernel⟩
theorem inX12_priceOf : Cond.instanceMethod (cz_nm mX12_priceOf) ∈ cz_T := cz_in (i := 1895) (by decide +kernel) rfl
theorem seX12_priceOf : Cond.selects (cz_on 12) (cz_nm mX12_priceOf) (cz_nm mX12_priceOf) ∈ cz_T := cz_in (i := 113) (by decide +kernel) rfl
theorem myX12_everybody : cz_my mX12_everybody 12 0 := ⟨rfl, cz_in (i := 1880) (by decide +kernel) rfl, ini12, by decide +kernel, by decide +kernel, by decide +kernel⟩
theorem inX12_everybody : Cond.instanceMethod (cz_nm mX12_everybody) ∈ cz_T := cz_in (i := 1879) (by decide +kernel) rfl
theorem seX12_everybody : Cond.selects (cz_on 12) (cz_nm mX12_everybody) (cz_nm mX12_everybody) ∈ cz_T := cz_in (i := 109) (by decide +kernel) rfl
theorem myX12_tonight : cz_my mX12_tonight 12 0 := ⟨rfl, cz_in (i := 1876) (by decide +kernel) rfl, ini12, by decide +kernel, by decide +kernel, by decide +kernel⟩
theorem inX12_tonight : Cond.instanceMethod (cz_nm mX12_tonight) ∈ cz_T := cz_in (i := 1875) (by decide +kernel) rfl
theorem seX12_tonight : Cond.selects (cz_on 12) (cz_nm mX12_tonight) (cz_nm mX12_tonight) ∈ cz_T := cz_in (i := 108) (by decide +kernel) rfl
theorem myX12_isHut : cz_my mX12_isHut 12 1 := ⟨rfl, cz_in (i := 1816) (by decide +kernel) rfl, ini12, by decide +kernel, by decide +kernel, by decide +kernel⟩
theorem inX12_isHut : Cond.instanceMethod (cz_nm mX12_isHut) ∈ cz_T := cz_in (i := 1815) (by decide +kernel) rfl
theorem seX12_isHut : Cond.selects (cz_on 12) (cz_nm mX12_isHut) (cz_nm mX12_isHut) ∈ cz_T := cz_in (i := 100) (by decide +kernel) rfl
theorem myX12_isTurner : cz_my mX12_isTurner 12 1 := ⟨rfl, cz_in (i := 1852) (by decide +kernel) rfl, ini12, by decide +kernel, by decide +kernel, by decide +kernel⟩
theorem inX12_isTurner : Cond.instanceMethod (cz_nm mX12_isTurner) ∈ cz_T := cz_in (i := 1851) (by decide +kernel) rfl
theorem seX12_isTurner : Cond.selects (cz_on 12) (cz_nm mX12_isTurner) (cz_nm mX12_isTurner) ∈ cz_T := cz_in (i := 104) (by decide +kernel) rfl
theorem myX12_isCheese : cz_my mX12_isCheese 12 1 := ⟨rfl, cz_in (i := 1913) (by decide +kernel) rfl, ini12, by decide +kernel, by decide +kernel, by decide +kernel⟩
theorem inX12_isCheese : Cond.instanceMethod (cz_nm mX12_isCheese) ∈ cz_T := cz_in (i := 1912) (by decide +kernel) rfl
theorem seX12_isCheese : Cond.selects (cz_on 12) (cz_nm mX12_isCheese) (cz_nm mX12_isCheese) ∈ cz_T := cz_in (i := 115) (by decide +kernel) rfl
theorem myX12_isMinute : cz_my mX12_isMinute 12 1 := ⟨rfl, cz_in (i := 1780) (by decide +kernel) rfl, ini12, by decide +kernel, by decide +kernel, by decide +kernel⟩
theorem inX12_isMinute : Cond.instanceMethod (cz_nm mX12_isMinute) ∈ cz_T := cz_in (i := 1779) (by decide +kernel) rfl
theorem seX12_isMinute : Cond.selects (cz_on 12) (cz_nm mX12_isMinute) (cz_nm mX12_isMinute) ∈ cz_T := cz_in (i := 92) (by decide +kernel) rfl
theorem myX12_sky : cz_my mX12_sky 12 1 := ⟨rfl, cz_in (i := 1776) (by decide +kernel) rfl, ini12, by decide +kernel, by decide +kernel, by decide +kernel⟩
theorem inX12_sky : Cond.instanceMethod (cz_nm mX12_sky) ∈ cz_T := cz_in (i := 1774) (by decide +kernel) rfl
theorem seX12_sky : Cond.selects (cz_on 12) (cz_nm mX12_sky) (cz_nm mX12_sky) ∈ cz_T := cz_in (i := 1775) (by decide +kernel) rfl
theorem myX12_light : cz_my mX12_light 12 3 := ⟨rfl, cz_in (i := 1812) (by decide +kernel) rfl, ini12, by decide +kernel, by decide +kernel, by decide +kernel⟩
theorem inX12_light : Cond.instanceMethod (cz_nm mX12_light) ∈ cz_T := cz_in (i := 1810) (by decide +kernel) rfl
theorem seX12_light : Cond.selects (cz_on 12) (cz_nm mX12_light) (cz_nm mX12_light) ∈ cz_T := cz_in (i := 1811) (by decide +kernel) rfl
theorem myX12_changes : cz_my mX12_changes 12 2 := ⟨rfl, cz_in (i := 1820) (by decide +kernel) rfl, ini12, by decide +kernel, by decide +kernel, by decide +kernel⟩
theorem inX12_changes : Cond.instanceMethod (cz_nm mX12_changes) ∈ cz_T := cz_in (i := 1818) (by decide +kernel) rfl
theorem seX12_changes : Cond.selects (cz_on 12) (cz_nm mX12_changes) (cz_nm mX12_changes) ∈ cz_T := cz_in (i := 1819) (by decide +kernel) rfl
theorem myX12_change : cz_my mX12_change 12 2 := ⟨rfl, cz_in (i := 1832) (by decide +kernel) rfl, ini12, by decide +kernel, by decide +kernel, by decide +kernel⟩
theorem inX12_change : Cond.instanceMethod (cz_nm mX12_change) ∈ cz_T := cz_in (i := 1830) (by decide +kernel) rfl
theorem seX12_change : Cond.selects (cz_on 12) (cz_nm mX12_change) (cz_nm mX12_change) ∈ cz_T := cz_in (i := 1831) (by decide +kernel) rfl
theorem myX12_dueIn : cz_my mX12_dueIn 12 1 := ⟨rfl, cz_in (i := 1840) (by decide +kernel) rfl, ini12, by decide +kernel, by decide +kernel, by decide +kernel⟩
theorem inX12_dueIn : Cond.instanceMethod (cz_nm mX12_dueIn) ∈ cz_T := cz_in (i := 1839) (by decide +kernel) rfl
theorem seX12_dueIn : Cond.selects (cz_on 12) (cz_nm mX12_dueIn) (cz_nm mX12_dueIn) ∈ cz_T := cz_in (i := 103) (by decide +kernel) rfl
theorem myX12_peak : cz_my mX12_peak 12 0 := ⟨rfl, cz_in (i := 1836) (by decide +kernel) rfl, ini12, by decide +kernel, by decide +kernel, by decide +kernel⟩
theorem inX12_peak : Cond.instanceMethod (cz_nm mX12_peak) ∈ cz_T := cz_in (i := 1834) (by decide +kernel) rfl
theorem seX12_peak : Cond.selects (cz_on 12) (cz_nm mX12_peak) (cz_nm mX12_peak) ∈ cz_T := cz_in (i := 1835) (by decide +kernel) rfl
theorem myX12_due : cz_my mX12_due 12 1 := ⟨rfl, cz_in (i := 1844) (by decide +kernel) rfl, ini12, by decide +kernel, by decide +kernel, by decide +kernel⟩
theorem inX12_due : Cond.instanceMethod (cz_nm mX12_due) ∈ cz_T := cz_in (i := 1842) (by decide +kernel) rfl
theorem seX12_due : Cond.selects (cz_on 12) (cz_nm mX12_due) (cz_nm mX12_due) ∈ cz_T := cz_in (i := 1843) (by decide +kernel) rfl
theorem myX12_awake : cz_my mX12_awake 12 2 := ⟨rfl, cz_in (i := 1848) (by decide +kernel) rfl, ini12, by decide +kernel, by decide +kernel, by decide +kernel⟩
theorem inX12_awake : Cond.instanceMethod (cz_nm mX12_awake) ∈ cz_T := cz_in (i := 1846) (by decide +kernel) rfl
theorem seX12_awake : Cond.selects (cz_on 12) (cz_nm mX12_awake) (cz_nm mX12_awake) ∈ cz_T := cz_in (i := 1847) (by decide +kernel) rfl
theorem myX12_notices : cz_my mX12_notices 12 3 := ⟨rfl, cz_in (i := 1860) (by decide +kernel) rfl, ini12, by decide +kernel, by decide +kernel, by decide +kernel⟩
theorem inX12_notices : Cond.instanceMethod (cz_nm mX12_notices) ∈ cz_T := cz_in (i := 1858) (by decide +kernel) rfl
theorem seX12_notices : Cond.selects (cz_on 12) (cz_nm mX12_notices) (cz_nm mX12_notices) ∈ cz_T := cz_in (i := 1859) (by decide +kernel) rfl
theorem myX12_work : cz_my mX12_work 12 2 := ⟨rfl, cz_in (i := 1872) (by decide +kernel) rfl, ini12, by decide +kernel, by decide +kernel, by decide +kernel⟩
theorem inX12_work : Cond.instanceMethod (cz_nm mX12_work) ∈ cz_T := cz_in (i := 1870) (by decide +kernel) rfl
theorem seX12_work : Cond.selects (cz_on 12) (cz_nm mX12_work) (cz_nm mX12_work) ∈ cz_T := cz_in (i := 1871) (by decide +kernel) rfl
theorem myX12_worth : cz_my mX12_worth 12 1 := ⟨rfl, cz_in (i := 1900) (by decide +kernel) rfl, ini12, by decide +kernel, by decide +kernel, by decide +kernel⟩
theorem inX12_worth : Cond.instanceMethod (cz_nm mX12_worth) ∈ cz_T := cz_in (i := 1898) (by decide +kernel) rfl
theorem seX12_worth : Cond.selects (cz_on 12) (cz_nm mX12_worth) (cz_nm mX12_worth) ∈ cz_T := cz_in (i := 1899) (by decide +kernel) rfl
theorem myX12_turned : cz_my mX12_turned 12 2 := ⟨rfl, cz_in (i := 1909) (by decide +kernel) rfl, ini12, by decide +kernel, by decide +kernel, by decide +kernel⟩
theorem inX12_turned : Cond.instanceMethod (cz_nm mX12_turned) ∈ cz_T := cz_in (i := 1907) (by decide +kernel) rfl
theorem seX12_turned : Cond.selects (cz_on 12) (cz_nm mX12_turned) (cz_nm mX12_turned) ∈ cz_T := cz_in (i := 1908) (by decide +kernel) rfl
theorem myX12_up : cz_my mX12_up 12 2 := ⟨rfl, cz_in (i := 1917) (by decide +kernel) rfl, ini12, by decide +kernel, by decide +kernel, by decide +kernel⟩
theorem inX12_up : Cond.instanceMethod (cz_nm mX12_up) ∈ cz_T := cz_in (i := 1915) (by decide +kernel) rfl
theorem seX12_up : Cond.selects (cz_on 12) (cz_nm mX12_up) (cz_nm mX12_up) ∈ cz_T := cz_in (i := 1916) (by decide +kernel) rfl
theorem myX12_cheese : cz_my mX12_cheese 12 2 := ⟨rfl, cz_in (i := 1921) (by decide +kernel) rfl, ini12, by decide +kernel, by decide +kernel, by decide +kernel⟩
theorem inX12_cheese : Cond.instanceMethod (cz_nm mX12_cheese) ∈ cz_T := cz_in (i := 1919) (by decide +kernel) rfl
theorem seX12_cheese : Cond.selects (cz_on 12) (cz_nm mX12_cheese) (cz_nm mX12_cheese) ∈ cz_T := cz_in (i := 1920) (by decide +kernel) rfl
theorem myX12_veinAt : cz_my mX12_veinAt 12 2 := ⟨rfl, cz_in (i := 1929) (by decide +kernel) rfl, ini12, by decide +kernel, by decide +kernel, by decide +kernel⟩
theorem inX12_veinAt : Cond.instanceMethod (cz_nm mX12_veinAt) ∈ cz_T := cz_in (i := 1928) (by decide +kernel) rfl
theorem seX12_veinAt : Cond.selects (cz_on 12) (cz_nm mX12_veinAt) (cz_nm mX12_veinAt) ∈ cz_T := cz_in (i := 116) (by decide +kernel) rfl
theorem myX12_vein : cz_my mX12_vein 12 2 := ⟨rfl, cz_in (i := 1925) (by decide +kernel) rfl, ini12, by decide +kernel, by decide +kernel, by decide +kernel⟩
theorem inX12_vein : Cond.instanceMethod (cz_nm mX12_vein) ∈ cz_T := cz_in (i := 1923) (by decide +kernel) rfl
theorem seX12_vein : Cond.selects (cz_on 12) (cz_nm mX12_vein) (cz_nm mX12_vein) ∈ cz_T := cz_in (i := 1924) (by decide +kernel) rfl
theorem myX12_cause : cz_my mX12_cause 12 2 := ⟨rfl, cz_in (i := 1933) (by decide +kernel) rfl, ini12, by decide +kernel, by decide +kernel, by decide +kernel⟩
theorem inX12_cause : Cond.instanceMethod (cz_nm mX12_cause) ∈ cz_T := cz_in (i := 1931) (by decide +kernel) rfl
theorem seX12_cause : Cond.selects (cz_on 12) (cz_nm mX12_cause) (cz_nm mX12_cause) ∈ cz_T := cz_in (i := 1932) (by decide +kernel) rfl
theorem myX12_total : cz_my mX12_total 12 0 := ⟨rfl, cz_in (i := 1937) (by decide +kernel) rfl, ini12, by decide +kernel, by decide +kernel, by decide +kernel⟩
theorem inX12_total : Cond.instanceMethod (cz_nm mX12_total) ∈ cz_T := cz_in (i := 1935) (by decide +kernel) rfl
theorem seX12_total : Cond.selects (cz_on 12) (cz_nm mX12_total) (cz_nm mX12_total) ∈ cz_T := cz_in (i := 1936) (by decide +kernel) rfl
theorem myX12_isEvent : cz_my mX12_isEvent 12 1 := ⟨rfl, cz_in (i := 1945) (by decide +kernel) rfl, ini12, by decide +kernel, by decide +kernel, by decide +kernel⟩
theorem inX12_isEvent : Cond.instanceMethod (cz_nm mX12_isEvent) ∈ cz_T := cz_in (i := 1944) (by decide +kernel) rfl
theorem seX12_isEvent : Cond.selects (cz_on 12) (cz_nm mX12_isEvent) (cz_nm mX12_isEvent) ∈ cz_T := cz_in (i := 117) (by decide +kernel) rfl
theorem myX12_without : cz_my mX12_without 12 1 := ⟨rfl, cz_in (i := 1941) (by decide +kernel) rfl, ini12, by decide +kernel, by decide +kernel, by decide +kernel⟩
theorem inX12_without : Cond.instanceMethod (cz_nm mX12_without) ∈ cz_T := cz_in (i := 1939) (by decide +kernel) rfl
theorem seX12_without : Cond.selects (cz_on 12) (cz_nm mX12_without) (cz_nm mX12_without) ∈ cz_T := cz_in (i := 1940) (by decide +kernel) rfl
theorem myX12_wakeNow : cz_my mX12_wakeNow 12 0 := ⟨rfl, cz_in (i := 1953) (by decide +kernel) rfl, ini12, by decide +kernel, by decide +kernel, by decide +kernel⟩
theorem inX12_wakeNow : Cond.instanceMethod (cz_nm mX12_wakeNow) ∈ cz_T := cz_in (i := 1952) (by decide +kernel) rfl
theorem seX12_wakeNow : Cond.selects (cz_on 12) (cz_nm mX12_wakeNow) (cz_nm mX12_wakeNow) ∈ cz_T := cz_in (i := 118) (by decide +kernel) rfl
theorem myX12_wake : cz_my mX12_wake 12 0 := ⟨rfl, cz_in (i := 1949) (by decide +kernel) rfl, ini12, by decide +kernel, by decide +kernel, by decide +kernel⟩
theorem inX12_wake : Cond.instanceMethod (cz_nm mX12_wake) ∈ cz_T := cz_in (i := 1947) (by decide +kernel) rfl
theorem seX12_wake : Cond.selects (cz_on 12) (cz_nm mX12_wake) (cz_nm mX12_wake) ∈ cz_T := cz_in (i := 1948) (by decide +kernel) rfl
theorem myX12_wakeTotal : cz_my mX12_wakeTotal 12 0 := ⟨rfl, cz_in (i := 1960) (by decide +kernel) rfl, ini12, by decide +kernel, by decide +kernel, by decide +kernel⟩
theorem inX12_wakeTotal : Cond.instanceMethod (cz_nm mX12_wakeTotal) ∈ cz_T := cz_in (i := 1958) (by decide +kernel) rfl
theorem seX12_wakeTotal : Cond.selects (cz_on 12) (cz_nm mX12_wakeTotal) (cz_nm mX12_wakeTotal) ∈ cz_T := cz_in (i := 1959) (by decide +kernel) rfl
theorem myX12_missesNone : cz_my mX12_missesNone 12 1 := ⟨rfl, cz_in (i := 1972) (by decide +kernel) rfl, ini12, by decide +kernel, by decide +kernel, by decide +kernel⟩
theorem inX12_missesNone : Cond.instanceMethod (cz_nm mX12_missesNone) ∈ cz_T := cz_in (i := 1971) (by decide +kernel) rfl
theorem seX12_missesNone : Cond.selects (cz_on 12) (cz_nm mX12_missesNone) (cz_nm mX12_missesNone) ∈ cz_T := cz_in (i := 120) (by decide +kernel) rfl
theorem myX12_fewestNow : cz_my mX12_fewestNow 12 0 := ⟨rfl, cz_in (i := 1968) (by decide +kernel) rfl, ini12, by decide +kernel, by decide +kernel, by decide +kernel⟩
theorem inX12_fewestNow : Cond.instanceMethod (cz_nm mX12_fewestNow) ∈ cz_T := cz_in (i := 1967) (by decide +kernel) rfl
theorem seX12_fewestNow : Cond.selects (cz_on 12) (cz_nm mX12_fewestNow) (cz_nm mX12_fewestNow) ∈ cz_T := cz_in (i := 119) (by decide +kernel) rfl
theorem myX12_fewest : cz_my mX12_fewest 12 0 := ⟨rfl, cz_in (i := 1964) (by decide +kernel) rfl, ini12, by decide +kernel, by decide +kernel, by decide +kernel⟩
theorem inX12_fewest : Cond.instanceMethod (cz_nm mX12_fewest) ∈ cz_T := cz_in (i := 1962) (by decide +kernel) rfl
theorem seX12_fewest : Cond.selects (cz_on 12) (cz_nm mX12_fewest) (cz_nm mX12_fewest) ∈ cz_T := cz_in (i := 1963) (by decide +kernel) rfl
theorem myX12_fewestBy : cz_my mX12_fewestBy 12 0 := ⟨rfl, cz_in (i := 1976) (by decide +kernel) rfl, ini12, by decide +kernel, by decide +kernel, by decide +kernel⟩
theorem inX12_fewestBy : Cond.instanceMethod (cz_nm mX12_fewestBy) ∈ cz_T := cz_in (i := 1974) (by decide +kernel) rfl
theorem seX12_fewestBy : Cond.selects (cz_on 12) (cz_nm mX12_fewestBy) (cz_nm mX12_fewestBy) ∈ cz_T := cz_in (i := 1975) (by decide +kernel) rfl
theorem myX12_isSlice : cz_my mX12_isSlice 12 1 := ⟨rfl, cz_in (i := 1984) (by decide +kernel) rfl, ini12, by decide +kernel, by decide +kernel, by decide +kernel⟩
theorem inX12_isSlice : Cond.instanceMethod (cz_nm mX12_isSlice) ∈ cz_T := cz_in (i := 1983) (by decide +kernel) rfl
theorem seX12_isSlice : Cond.selects (cz_on 12) (cz_nm mX12_isSlice) (cz_nm mX12_isSlice) ∈ cz_T := cz_in (i := 121) (by decide +kernel) rfl
theorem myX12_fitsNow : cz_my mX12_fitsNow 12 1 := ⟨rfl, cz_in (i := 1988) (by decide +kernel) rfl, ini12, by decide +kernel, by decide +kernel, by decide +kernel⟩
theorem inX12_fitsNow : Cond.instanceMethod (cz_nm mX12_fitsNow) ∈ cz_T := cz_in (i := 1987) (by decide +kernel) rfl
theorem seX12_fitsNow : Cond.selects (cz_on 12) (cz_nm mX12_fitsNow) (cz_nm mX12_fitsNow) ∈ cz_T := cz_in (i := 122) (by decide +kernel) rfl
theorem myX12_fits : cz_my mX12_fits 12 1 := ⟨rfl, cz_in (i := 1980) (by decide +kernel) rfl, ini12, by decide +kernel, by decide +kernel, by decide +kernel⟩
theorem inX12_fits : Cond.instanceMethod (cz_nm mX12_fits) ∈ cz_T := cz_in (i := 1978) (by decide +kernel) rfl
theorem seX12_fits : Cond.selects (cz_on 12) (cz_nm mX12_fits) (cz_nm mX12_fits) ∈ cz_T := cz_in (i := 1979) (by decide +kernel) rfl
theorem myX12_by : cz_my mX12_by 12 1 := ⟨rfl, cz_in (i := 1992) (by decide +kernel) rfl, ini12, by decide +kernel, by decide +kernel, by decide +kernel⟩
theorem inX12_by : Cond.instanceMethod (cz_nm mX12_by) ∈ cz_T := cz_in (i := 1990) (by decide +kernel) rfl
theorem seX12_by : Cond.selects (cz_on 12) (cz_nm mX12_by) (cz_nm mX12_by) ∈ cz_T := cz_in (i := 1991) (by decide +kernel) rfl
theorem myX12_comes : cz_my mX12_comes 12 2 := ⟨rfl, cz_in (i := 2012) (by decide +kernel) rfl, ini12, by decide +kernel, by decide +kernel, by decide +kernel⟩
theorem inX12_comes : Cond.instanceMethod (cz_nm mX12_comes) ∈ cz_T := cz_in (i := 2011) (by decide +kernel) rfl
theorem seX12_comes : Cond.selects (cz_on 12) (cz_nm mX12_comes) (cz_nm mX12_comes) ∈ cz_T := cz_in (i := 125) (by decide +kernel) rfl
theorem myX12_drawOf : cz_my mX12_drawOf 12 1 := ⟨rfl, cz_in (i := 2005) (by decide +kernel) rfl, ini12, by decide +kernel, by decide +kernel, by decide +kernel⟩
theorem inX12_drawOf : Cond.instanceMethod (cz_nm mX12_drawOf) ∈ cz_T := cz_in (i := 2004) (by decide +kernel) rfl
theorem seX12_drawOf : Cond.selects (cz_on 12) (cz_nm mX12_drawOf) (cz_nm mX12_drawOf) ∈ cz_T := cz_in (i := 124) (by decide +kernel) rfl
theorem myX12_draws : cz_my mX12_draws 12 0 := ⟨rfl, cz_in (i := 2001) (by decide +kernel) rfl, ini12, by decide +kernel, by decide +kernel, by decide +kernel⟩
theorem inX12_draws : Cond.instanceMethod (cz_nm mX12_draws) ∈ cz_T := cz_in (i := 2000) (by decide +kernel) rfl
theorem seX12_draws : Cond.selects (cz_on 12) (cz_nm mX12_draws) (cz_nm mX12_draws) ∈ cz_T := cz_in (i := 123) (by decide +kernel) rfl
theorem myX12_nights : cz_my mX12_nights 12 3 := ⟨rfl, cz_in (i := 1996) (by decide +kernel) rfl, ini12, by decide +kernel, by decide +kernel, by decide +kernel⟩
theorem inX12_nights : Cond.instanceMethod (cz_nm mX12_nights) ∈ cz_T := cz_in (i := 1994) (by decide +kernel) rfl
theorem seX12_nights : Cond.selects (cz_on 12) (cz_nm mX12_nights) (cz_nm mX12_nights) ∈ cz_T := cz_in (i := 1995) (by decide +kernel) rfl
theorem myX12_keeps : cz_my mX12_keeps 12 0 := ⟨rfl, cz_in (i := 2024) (by decide +kernel) rfl, ini12, by decide +kernel, by decide +kernel, by decide +kernel⟩
theorem inX12_keeps : Cond.instanceMethod (cz_nm mX12_keeps) ∈ cz_T := cz_in (i := 2023) (by decide +kernel) rfl
theorem seX12_keeps : Cond.selects (cz_on 12) (cz_nm mX12_keeps) (cz_nm mX12_keeps) ∈ cz_T := cz_in (i := 127) (by decide +kernel) rfl
theorem myX12_call : cz_my mX12_call 12 2 := ⟨rfl, cz_in (i := 2016) (by decide +kernel) rfl, ini12, by decide +kernel, by decide +kernel, by decide +kernel⟩
theorem inX12_call : Cond.instanceMethod (cz_nm mX12_call) ∈ cz_T := cz_in (i := 2014) (by decide +kernel) rfl
theorem seX12_call : Cond.selects (cz_on 12) (cz_nm mX12_call) (cz_nm mX12_call) ∈ cz_T := cz_in (i := 2015) (by decide +kernel) rfl
theorem myX12_calls : cz_my mX12_calls 12 0 := ⟨rfl, cz_in (i := 2032) (by decide +kernel) rfl, ini12, by decide +kernel, by decide +kernel, by decide +kernel⟩
theorem inX12_calls : Cond.instanceMethod (cz_nm mX12_calls) ∈ cz_T := cz_in (i := 2030) (by decide +kernel) rfl
theorem seX12_calls : Cond.selects (cz_on 12) (cz_nm mX12_calls) (cz_nm mX12_calls) ∈ cz_T := cz_in (i := 2031) (by decide +kernel) rfl
theorem myX12_cloud : cz_my mX12_cloud 12 2 := ⟨rfl, cz_in (i := 2036) (by decide +kernel) rfl, ini12, by decide +kernel, by decide +kernel, by decide +kernel⟩
theorem inX12_cloud : Cond.instanceMethod (cz_nm mX12_cloud) ∈ cz_T := cz_in (i := 2034) (by decide +kernel) rfl
theorem seX12_cloud : Cond.selects (cz_on 12) (cz_nm mX12_cloud) (cz_nm mX12_cloud) ∈ cz_T := cz_in (i := 2035) (by decide +kernel) rfl
theorem myX12_draw : cz_my mX12_draw 12 0 := ⟨rfl, cz_in (i := 2040) (by decide +kernel) rfl, ini12, by decide +kernel, by decide +kernel, by decide +kernel⟩
theorem inX12_draw : Cond.instanceMethod (cz_nm mX12_draw) ∈ cz_T := cz_in (i := 2038) (by decide +kernel) rfl
theorem seX12_draw : Cond.selects (cz_on 12) (cz_nm mX12_draw) (cz_nm mX12_draw) ∈ cz_T := cz_in (i := 2039) (by decide +kernel) rfl
theorem myX12_lift : cz_my mX12_lift 12 0 := ⟨rfl, cz_in (i := 2044) (by decide +kernel) rfl, ini12, by decide +kernel, by decide +kernel, by decide +kernel⟩
theorem inX12_lift : Cond.instanceMethod (cz_nm mX12_lift) ∈ cz_T := cz_in (i := 2042) (by decide +kernel) rfl
theorem seX12_lift : Cond.selects (cz_on 12) (cz_nm mX12_lift) (cz_nm mX12_lift) ∈ cz_T := cz_in (i := 2043) (by decide +kernel) rfl
theorem myX12_seed : cz_my mX12_seed 12 1 := ⟨rfl, cz_in (i := 2048) (by decide +kernel) rfl, ini12, by decide +kernel, by decide +kernel, by decide +kernel⟩
theorem inX12_seed : Cond.instanceMethod (cz_nm mX12_seed) ∈ cz_T := cz_in (i := 2046) (by decide +kernel) rfl
theorem seX12_seed : Cond.selects (cz_on 12) (cz_nm mX12_seed) (cz_nm mX12_seed) ∈ cz_T := cz_in (i := 2047) (by decide +kernel) rfl
theorem myX12_undo : cz_my mX12_undo 12 0 := ⟨rfl, cz_in (i := 2052) (by decide +kernel) rfl, ini12, by decide +kernel, by decide +kernel, by decide +kernel⟩
theorem inX12_undo : Cond.instanceMethod (cz_nm mX12_undo) ∈ cz_T := cz_in (i := 2050) (by decide +kernel) rfl
theorem seX12_undo : Cond.selects (cz_on 12) (cz_nm mX12_undo) (cz_nm mX12_undo) ∈ cz_T := cz_in (i := 2051) (by decide +kernel) rfl
theorem myX12_mark : cz_my mX12_mark 12 0 := ⟨rfl, cz_in (i := 2056) (by decide +kernel) rfl, ini12, by decide +kernel, by decide +kernel, by decide +kernel⟩
theorem inX12_mark : Cond.instanceMethod (cz_nm mX12_mark) ∈ cz_T := cz_in (i := 2054) (by decide +kernel) rfl
theorem seX12_mark : Cond.selects (cz_on 12) (cz_nm mX12_mark) (cz_nm mX12_mark) ∈ cz_T := cz_in (i := 2055) (by decide +kernel) rfl
theorem myX12_back : cz_my mX12_back 12 1 := ⟨rfl, cz_in (i := 2060) (by decide +kernel) rfl, ini12, by decide +kernel, by decide +kernel, by decide +kernel⟩
theorem inX12_back : Cond.instanceMethod (cz_nm mX12_back) ∈ cz_T := cz_in (i := 2058) (by decide +kernel) rfl
theorem seX12_back : Cond.selects (cz_on 12) (cz_nm mX12_back) (cz_nm mX12_back) ∈ cz_T := cz_in (i := 2059) (by decide +kernel) rfl
theorem myX12_event : cz_my mX12_event 12 2 := ⟨rfl, cz_in (i := 2064) (by decide +kernel) rfl, ini12, by decide +kernel, by decide +kernel, by decide +kernel⟩
theorem inX12_event : Cond.instanceMethod (cz_nm mX12_event) ∈ cz_T := cz_in (i := 2062) (by decide +kernel) rfl
theorem seX12_event : Cond.selects (cz_on 12) (cz_nm mX12_event) (cz_nm mX12_event) ∈ cz_T := cz_in (i := 2063) (by decide +kernel) rfl
theorem myX12_led : cz_my mX12_led 12 1 := ⟨rfl, cz_in (i := 2068) (by decide +kernel) rfl, ini12, by decide +kernel, by decide +kernel, by decide +kernel⟩
theorem inX12_led : Cond.instanceMethod (cz_nm mX12_led) ∈ cz_T := cz_in (i := 2066) (by decide +kernel) rfl
theorem seX12_led : Cond.selects (cz_on 12) (cz_nm mX12_led) (cz_nm mX12_led) ∈ cz_T := cz_in (i := 2067) (by decide +kernel) rfl
theorem myX12_size : cz_my mX12_size 12 1 := ⟨rfl, cz_in (i := 2072) (by decide +kernel) rfl, ini12, by decide +kernel, by decide +kernel, by decide +kernel⟩
theorem inX12_size : Cond.instanceMethod (cz_nm mX12_size) ∈ cz_T := cz_in (i := 2070) (by decide +kernel) rfl
theorem seX12_size : Cond.selects (cz_on 12) (cz_nm mX12_size) (cz_nm mX12_size) ∈ cz_T := cz_in (i := 2071) (by decide +kernel) rfl
theorem myX12_trouble : cz_my mX12_trouble 12 0 := ⟨rfl, cz_in (i := 2076) (by decide +kernel) rfl, ini12, by decide +kernel, by decide +kernel, by decide +kernel⟩
theorem inX12_trouble : Cond.instanceMethod (cz_nm mX12_trouble) ∈ cz_T := cz_in (i := 2074) (by decide +kernel) rfl
theorem seX12_trouble : Cond.selects (cz_on 12) (cz_nm mX12_trouble) (cz_nm mX12_trouble) ∈ cz_T := cz_in (i := 2075) (by decide +kernel) rfl
theorem myJ6_bitCount_0f7a4 : cz_my mJ6_bitCount_0f7a4 14 1 := ⟨rfl, cz_in (i := 1130) (by decide +kernel) rfl, ini14, by decide +kernel, by decide +kernel, by decide +kernel⟩
theorem inJ6_bitCount_0f7a4 : Cond.static (cz_nm mJ6_bitCount_0f7a4) ∈ cz_T := cz_in (i := 1129) (by decide +kernel) rfl
theorem myJ9_max_7cf53 : cz_my mJ9_max_7cf53 15 2 := ⟨rfl, cz_in (i := 1045) (by decide +kernel) rfl, ini15, by decide +kernel, by decide +kernel, by decide +kernel⟩
theorem inJ9_max_7cf53 : Cond.static (cz_nm mJ9_max_7cf53) ∈ cz_T := cz_in (i := 1044) (by decide +kernel) rfl
theorem myJ9_min_7cf53 : cz_my mJ9_min_7cf53 15 2 := ⟨rfl, cz_in (i := 1193) (by decide +kernel) rfl, ini15, by decide +kernel, by decide +kernel, by decide +kernel⟩
theorem inJ9_min_7cf53 : Cond.static (cz_nm mJ9_min_7cf53) ∈ cz_T := cz_in (i := 1192) (by decide +kernel) rfl
theorem myJ7_fill_53178 : cz_my mJ7_fill_53178 16 2 := ⟨rfl, cz_in (i := 977) (by decide +kernel) rfl, ini16, by decide +kernel, by decide +kernel, by decide +kernel⟩
theorem inJ7_fill_53178 : Cond.static (cz_nm mJ7_fill_53178) ∈ cz_T := cz_in (i := 976) (by decide +kernel) rfl
/-! ===== links of calls, classes, constants ===== -/
theorem lk0_3 : Cond.methodLink (cz_on 0) 3 objectInit ∈ cz_T := cz_in (i := 167) (by decide +kernel) rfl
theorem fl0_9 : cz_fl 0 9 = some (0, 2, 1, false) := by decide +kernel
theorem lc0_15 : Cond.classLink (cz_on 0) 15 (cz_on 2) ∈ cz_T := cz_in (i := 168) (by decide +kernel) rfl
theorem fl0_17 : cz_fl 0 17 = some (0, 4, 1, false) := by decide +kernel
theorem fl0_21 : cz_fl 0 21 = some (0, 6, 1, false) := by decide +kernel
theorem lc0_24 : Cond.classLink (cz_on 0) 24 (cz_on 4) ∈ cz_T := cz_in (i := 170) (by decide +kernel) rfl
theorem lk0_26 : (cz_on 0, 26, cz_nm mX4_init, "EclipseCheese") ∈ cz_NM := List.mem_of_getElem? (i := 0) (by decide +kernel)
theorem fl0_27 : cz_fl 0 27 = some (0, 8, 1, false) := by decide +kernel
theorem lc0_31 : Cond.classLink (cz_on 0) 31 (cz_on 9) ∈ cz_T := cz_in (i := 191) (by decide +kernel) rfl
theorem fl0_33 : cz_fl 0 33 = some (0, 10, 1, false) := by decide +kernel
theorem lc0_37 : Cond.classLink (cz_on 0) 37 (cz_on 1) ∈ cz_T := cz_in (i := 193) (by decide +kernel) rfl
theorem fl0_39 : cz_fl 0 39 = some (0, 12, 1, false) := by decide +kernel
theorem fl0_43 : cz_fl 0 43 = some (0, 14, 1, false) := by decide +kernel
theorem lk0_47 : (cz_on 0, 47, cz_nm mX2_init, "EclipseCheese") ∈ cz_NM := List.mem_of_getElem? (i := 1) (by decide +kernel)
theorem lk0_48 : (cz_on 0, 48, cz_nm mX9_init, "EclipseCheese") ∈ cz_NM := List.mem_of_getElem? (i := 2) (by decide +kernel)
theorem lk0_49 : (cz_on 0, 49, cz_nm mX1_init, "EclipseCheese") ∈ cz_NM := List.mem_of_getElem? (i := 3) (by decide +kernel)
theorem fl0_50 : cz_fl 0 50 = some (0, 0, 0, false) := by decide +kernel
theorem fl0_54 : cz_fl 0 54 = some (0, 1, 0, false) := by decide +kernel
theorem fl0_57 : cz_fl 0 57 = some (0, 3, 0, false) := by decide +kernel
theorem fl0_60 : cz_fl 0 60 = some (0, 5, 0, false) := by decide +kernel
theorem fl0_63 : cz_fl 0 63 = some (0, 7, 0, false) := by decide +kernel
theorem fl0_66 : cz_fl 0 66 = some (4, 0, 0, false) := by decide +kernel
theorem fl0_69 : cz_fl 0 69 = some (0, 9, 0, false) := by decide +kernel
theorem fl0_72 : cz_fl 0 72 = some (0, 11, 0, false) := by decide +kernel
theorem fl0_75 : cz_fl 0 75 = some (0, 13, 0, false) := by decide +kernel
theorem lk0_78 : (cz_on 0, 78, cz_nm mX10_bit, "EclipseCheese") ∈ cz_NM := List.mem_of_getElem? (i := 8) (by decide +kernel)
theorem fl0_82 : cz_fl 0 82 = some (1, 3, 0, false) := by decide +kernel
theorem lk1_1 : Cond.methodLink (cz_on 1) 1 objectInit ∈ cz_T := cz_in (i := 256) (by decide +kernel) rfl
theorem lk2_1 : Cond.methodLink (cz_on 2) 1 objectInit ∈ cz_T := cz_in (i := 200) (by decide +kernel) rfl
theorem lk3_3 : Cond.methodLink (cz_on 3) 3 objectInit ∈ cz_T := cz_in (i := 427) (by decide +kernel) rfl
theorem fl3_9 : cz_fl 3 9 = some (3, 3, 1, false) := by decide +kernel
theorem fl3_15 : cz_fl 3 15 = some (3, 4, 1, false) := by decide +kernel
theorem fl3_18 : cz_fl 3 18 = some (3, 0, 0, false) := by decide +kernel
theorem fl3_22 : cz_fl 3 22 = some (3, 1, 0, false) := by decide +kernel
theorem fl3_25 : cz_fl 3 25 = some (3, 2, 0, false) := by decide +kernel
theorem lk3_28 : Cond.methodLink (cz_on 3) 28 (cz_nm mX3_drawBelow) ∈ cz_T := cz_in (i := 1186) (by decide +kernel) rfl
theorem lk3_32 : Cond.methodLink (cz_on 3) 32 (cz_nm mJ9_min_7cf53) ∈ cz_T := cz_in (i := 1191) (by decide +kernel) rfl
theorem lk3_38 : Cond.methodLink (cz_on 3) 38 (cz_nm mX3_add) ∈ cz_T := cz_in (i := 1194) (by decide +kernel) rfl
theorem ld3_42 : Cond.constant (cz_on 3) 42 (65537) ∈ cz_T := cz_in (i := 1190) (by decide +kernel) rfl
theorem lk4_3 : Cond.methodLink (cz_on 4) 3 objectInit ∈ cz_T := cz_in (i := 175) (by decide +kernel) rfl
theorem fl4_9 : cz_fl 4 9 = some (4, 1, 1, false) := by decide +kernel
theorem fl4_15 : cz_fl 4 15 = some (4, 0, 0, false) := by decide +kernel
theorem lk5_3 : Cond.methodLink (cz_on 5) 3 objectInit ∈ cz_T := cz_in (i := 535) (by decide +kernel) rfl
theorem fl5_9 : cz_fl 5 9 = some (5, 3, 1, false) := by decide +kernel
theorem fl5_15 : cz_fl 5 15 = some (5, 4, 1, false) := by decide +kernel
theorem fl5_18 : cz_fl 5 18 = some (5, 5, 1, false) := by decide +kernel
theorem fl5_21 : cz_fl 5 21 = some (5, 6, 1, false) := by decide +kernel
theorem fl5_24 : cz_fl 5 24 = some (5, 7, 1, false) := by decide +kernel
theorem fl5_27 : cz_fl 5 27 = some (5, 8, 1, false) := by decide +kernel
theorem fl5_30 : cz_fl 5 30 = some (5, 9, 1, false) := by decide +kernel
theorem fl5_33 : cz_fl 5 33 = some (5, 10, 1, false) := by decide +kernel
theorem fl5_36 : cz_fl 5 36 = some (5, 11, 1, false) := by decide +kernel
theorem fl5_39 : cz_fl 5 39 = some (5, 0, 1, false) := by decide +kernel
theorem fl5_43 : cz_fl 5 43 = some (5, 1, 1, false) := by decide +kernel
theorem fl5_47 : cz_fl 5 47 = some (5, 2, 0, false) := by decide +kernel
theorem lk5_51 : Cond.methodLink (cz_on 5) 51 (cz_nm mX5_forget) ∈ cz_T := cz_in (i := 971) (by decide +kernel) rfl
theorem fl5_54 : cz_fl 5 54 = some (0, 7, 0, false) := by decide +kernel
theorem fl5_59 : cz_fl 5 59 = some (8, 10, 0, false) := by decide +kernel
theorem fl5_64 : cz_fl 5 64 = some (8, 11, 1, false) := by decide +kernel
theorem lk5_67 : Cond.methodLink (cz_on 5) 67 (cz_nm mX5_turnAll) ∈ cz_T := cz_in (i := 978) (by decide +kernel) rfl
theorem lk5_71 : Cond.methodLink (cz_on 5) 71 (cz_nm mX5_judge) ∈ cz_T := cz_in (i := 1000) (by decide +kernel) rfl
theorem lk5_75 : Cond.methodLink (cz_on 5) 75 (cz_nm mJ7_fill_53178) ∈ cz_T := cz_in (i := 975) (by decide +kernel) rfl
theorem fl5_81 : cz_fl 5 81 = some (0, 9, 0, false) := by decide +kernel
theorem lk5_84 : (cz_on 5, 84, cz_nm mX10_bit, "EclipseCheese") ∈ cz_NM := List.mem_of_getElem? (i := 9) (by decide +kernel)
theorem lk5_87 : Cond.methodLink (cz_on 5) 87 (cz_nm mX5_noticedHuts) ∈ cz_T := cz_in (i := 983) (by decide +kernel) rfl
theorem fl5_90 : cz_fl 5 90 = some (0, 10, 1, false) := by decide +kernel
theorem fl5_94 : cz_fl 5 94 = some (9, 5, 0, false) := by decide +kernel
theorem lk5_99 : Cond.methodLink (cz_on 5) 99 (cz_nm mX5_isAwake) ∈ cz_T := cz_in (i := 988) (by decide +kernel) rfl
theorem lk5_103 : Cond.methodLink (cz_on 5) 103 (cz_nm mX5_turnSome) ∈ cz_T := cz_in (i := 996) (by decide +kernel) rfl
theorem fl5_107 : cz_fl 5 107 = some (0, 5, 0, false) := by decide +kernel
theorem fl5_110 : cz_fl 5 110 = some (9, 3, 0, false) := by decide +kernel
theorem fl5_112 : cz_fl 5 112 = some (0, 6, 1, false) := by decide +kernel
theorem fl5_115 : cz_fl 5 115 = some (8, 8, 1, false) := by decide +kernel
theorem fl5_118 : cz_fl 5 118 = some (9, 4, 0, false) := by decide +kernel
theorem lk5_121 : Cond.methodLink (cz_on 5) 121 (cz_nm mX8_crackingHuts) ∈ cz_T := cz_in (i := 1004) (by decide +kernel) rfl
theorem fl5_125 : cz_fl 5 125 = some (9, 1, 0, false) := by decide +kernel
theorem fl5_128 : cz_fl 5 128 = some (9, 2, 0, false) := by decide +kernel
theorem fl5_131 : cz_fl 5 131 = some (9, 0, 0, false) := by decide +kernel
theorem fl5_134 : cz_fl 5 134 = some (8, 2, 1, false) := by decide +kernel
theorem lk5_138 : Cond.methodLink (cz_on 5) 138 (cz_nm mX5_isCalled) ∈ cz_T := cz_in (i := 992) (by decide +kernel) rfl
theorem fl5_141 : cz_fl 5 141 = some (0, 11, 0, false) := by decide +kernel
theorem fl5_144 : cz_fl 5 144 = some (0, 12, 1, false) := by decide +kernel
theorem fl5_147 : cz_fl 5 147 = some (1, 0, 0, false) := by decide +kernel
theorem fl5_152 : cz_fl 5 152 = some (1, 1, 0, false) := by decide +kernel
theorem fl5_155 : cz_fl 5 155 = some (1, 2, 0, false) := by decide +kernel
theorem fl5_158 : cz_fl 5 158 = some (0, 8, 1, false) := by decide +kernel
theorem lk5_162 : Cond.methodLink (cz_on 5) 162 (cz_nm mX4_holds) ∈ cz_T := cz_in (i := 987) (by decide +kernel) rfl
theorem fl5_168 : cz_fl 5 168 = some (8, 1, 0, false) := by decide +kernel
theorem fl5_171 : cz_fl 5 171 = some (8, 9, 1, false) := by decide +kernel
theorem fl5_174 : cz_fl 5 174 = some (0, 0, 0, false) := by decide +kernel
theorem lk5_177 : Cond.methodLink (cz_on 5) 177 (cz_nm mX5_turnerOf) ∈ cz_T := cz_in (i := 1070) (by decide +kernel) rfl
theorem lk5_180 : Cond.methodLink (cz_on 5) 180 (cz_nm mX5_isTurned) ∈ cz_T := cz_in (i := 1066) (by decide +kernel) rfl
theorem lk5_183 : Cond.methodLink (cz_on 5) 183 (cz_nm mX5_hasJustVeins) ∈ cz_T := cz_in (i := 1166) (by decide +kernel) rfl
theorem fl5_187 : cz_fl 5 187 = some (4, 0, 0, false) := by decide +kernel
theorem fl5_190 : cz_fl 5 190 = some (4, 1, 1, false) := by decide +kernel
theorem fl5_192 : cz_fl 5 192 = some (0, 2, 1, false) := by decide +kernel
theorem lk5_195 : Cond.methodLink (cz_on 5) 195 (cz_nm mJ9_max_7cf53) ∈ cz_T := cz_in (i := 1043) (by decide +kernel) rfl
theorem lk5_200 : Cond.methodLink (cz_on 5) 200 (cz_nm mX0_costOf) ∈ cz_T := cz_in (i := 1035) (by decide +kernel) rfl
theorem lk5_203 : Cond.methodLink (cz_on 5) 203 (cz_nm mX5_price) ∈ cz_T := cz_in (i := 1039) (by decide +kernel) rfl
theorem lk6_3 : Cond.methodLink (cz_on 6) 3 objectInit ∈ cz_T := cz_in (i := 457) (by decide +kernel) rfl
theorem lc6_9 : Cond.classLink (cz_on 6) 9 (cz_on 3) ∈ cz_T := cz_in (i := 458) (by decide +kernel) rfl
theorem fl6_11 : cz_fl 6 11 = some (6, 1, 1, false) := by decide +kernel
theorem fl6_17 : cz_fl 6 17 = some (6, 3, 1, false) := by decide +kernel
theorem lk6_20 : (cz_on 6, 20, cz_nm mX3_init, "EclipseCheese") ∈ cz_NM := List.mem_of_getElem? (i := 5) (by decide +kernel)
theorem fl6_21 : cz_fl 6 21 = some (6, 0, 0, false) := by decide +kernel
theorem fl6_25 : cz_fl 6 25 = some (6, 2, 0, false) := by decide +kernel
theorem lk6_28 : Cond.methodLink (cz_on 6) 28 (cz_nm mX6_dropOldestAct) ∈ cz_T := cz_in (i := 1210) (by decide +kernel) rfl
theorem lk6_31 : Cond.methodLink (cz_on 6) 31 (cz_nm mX3_become) ∈ cz_T := cz_in (i := 1214) (by decide +kernel) rfl
theorem lk7_3 : Cond.methodLink (cz_on 7) 3 objectInit ∈ cz_T := cz_in (i := 366) (by decide +kernel) rfl
theorem fl7_9 : cz_fl 7 9 = some (7, 13, 1, false) := by decide +kernel
theorem fl7_15 : cz_fl 7 15 = some (7, 14, 1, false) := by decide +kernel
theorem fl7_18 : cz_fl 7 18 = some (7, 0, 1, false) := by decide +kernel
theorem fl7_22 : cz_fl 7 22 = some (7, 10, 1, false) := by decide +kernel
theorem lk7_26 : Cond.methodLink (cz_on 7) 26 (cz_nm mX0_clear) ∈ cz_T := cz_in (i := 655) (by decide +kernel) rfl
theorem fl7_31 : cz_fl 7 31 = some (7, 11, 3, false) := by decide +kernel
theorem fl7_35 : cz_fl 7 35 = some (7, 12, 3, false) := by decide +kernel
theorem fl7_38 : cz_fl 7 38 = some (7, 15, 0, false) := by decide +kernel
theorem fl7_42 : cz_fl 7 42 = some (7, 16, 0, false) := by decide +kernel
theorem fl7_45 : cz_fl 7 45 = some (7, 1, 0, false) := by decide +kernel
theorem fl7_48 : cz_fl 7 48 = some (7, 2, 0, false) := by decide +kernel
theorem lk7_51 : Cond.methodLink (cz_on 7) 51 (cz_nm mX7_step) ∈ cz_T := cz_in (i := 659) (by decide +kernel) rfl
theorem lk7_54 : Cond.methodLink (cz_on 7) 54 (cz_nm mX7_readLine) ∈ cz_T := cz_in (i := 673) (by decide +kernel) rfl
theorem fl7_58 : cz_fl 7 58 = some (7, 3, 0, false) := by decide +kernel
theorem fl7_61 : cz_fl 7 61 = some (0, 5, 0, false) := by decide +kernel
theorem lk7_64 : Cond.methodLink (cz_on 7) 64 (cz_nm mX7_fail) ∈ cz_T := cz_in (i := 746) (by decide +kernel) rfl
theorem fl7_68 : cz_fl 7 68 = some (7, 4, 0, false) := by decide +kernel
theorem lk7_71 : Cond.methodLink (cz_on 7) 71 (cz_nm mX7_stepWord) ∈ cz_T := cz_in (i := 663) (by decide +kernel) rfl
theorem lk7_75 : Cond.methodLink (cz_on 7) 75 (cz_nm mX7_stepWhole) ∈ cz_T := cz_in (i := 669) (by decide +kernel) rfl
theorem fl7_78 : cz_fl 7 78 = some (7, 5, 2, false) := by decide +kernel
theorem ld7_82 : Cond.constantLong (cz_on 7) 82 (32) ∈ cz_T := cz_in (i := 667) (by decide +kernel) rfl
theorem ld7_84 : Cond.constantLong (cz_on 7) 84 (97) ∈ cz_T := cz_in (i := 668) (by decide +kernel) rfl
theorem fl7_86 : cz_fl 7 86 = some (7, 6, 0, false) := by decide +kernel
theorem lk7_97 : Cond.methodLink (cz_on 7) 97 (cz_nm mX7_packed) ∈ cz_T := cz_in (i := 695) (by decide +kernel) rfl
theorem lk7_101 : Cond.methodLink (cz_on 7) 101 (cz_nm mX7_seesWord) ∈ cz_T := cz_in (i := 767) (by decide +kernel) rfl
theorem lk7_105 : Cond.methodLink (cz_on 7) 105 (cz_nm mX7_seesWhole) ∈ cz_T := cz_in (i := 775) (by decide +kernel) rfl
theorem fl7_109 : cz_fl 7 109 = some (7, 7, 0, false) := by decide +kernel
theorem fl7_112 : cz_fl 7 112 = some (0, 1, 0, false) := by decide +kernel
theorem lk7_115 : Cond.methodLink (cz_on 7) 115 (cz_nm mX7_takeWhole) ∈ cz_T := cz_in (i := 771) (by decide +kernel) rfl
theorem fl7_118 : cz_fl 7 118 = some (0, 0, 0, false) := by decide +kernel
theorem fl7_121 : cz_fl 7 121 = some (7, 8, 0, false) := by decide +kernel
theorem ld7_124 : (cz_on 7, 124, "to", (25 : UInt32).toNat) ∈ cz_SR := List.mem_of_getElem? (i := 20) (by decide +kernel)
theorem lk7_126 : Cond.methodLink (cz_on 7) 126 (cz_nm mX7_takeWord) ∈ cz_T := cz_in (i := 763) (by decide +kernel) rfl
theorem fl7_129 : cz_fl 7 129 = some (7, 9, 0, false) := by decide +kernel
theorem ld7_131 : (cz_on 7, 131, "cloud", (7 : UInt32).toNat) ∈ cz_SR := List.mem_of_getElem? (i := 0) (by decide +kernel)
theorem ld7_133 : (cz_on 7, 133, "eclipse", (11 : UInt32).toNat) ∈ cz_SR := List.mem_of_getElem? (i := 1) (by decide +kernel)
theorem ld7_135 : (cz_on 7, 135, "lamp", (17 : UInt32).toNat) ∈ cz_SR := List.mem_of_getElem? (i := 2) (by decide +kernel)
theorem ld7_137 : (cz_on 7, 137, "shutter", (22 : UInt32).toNat) ∈ cz_SR := List.mem_of_getElem? (i := 3) (by decide +kernel)
theorem ld7_139 : (cz_on 7, 139, "bolt", (4 : UInt32).toNat) ∈ cz_SR := List.mem_of_getElem? (i := 4) (by decide +kernel)
theorem ld7_141 : (cz_on 7, 141, "cheese", (6 : UInt32).toNat) ∈ cz_SR := List.mem_of_getElem? (i := 5) (by decide +kernel)
theorem ld7_143 : (cz_on 7, 143, "almanac", (0 : UInt32).toNat) ∈ cz_SR := List.mem_of_getElem? (i := 6) (by decide +kernel)
theorem ld7_145 : (cz_on 7, 145, "turner", (26 : UInt32).toNat) ∈ cz_SR := List.mem_of_getElem? (i := 7) (by decide +kernel)
theorem ld7_147 : (cz_on 7, 147, "call", (5 : UInt32).toNat) ∈ cz_SR := List.mem_of_getElem? (i := 8) (by decide +kernel)
theorem ld7_149 : (cz_on 7, 149, "slice", (23 : UInt32).toNat) ∈ cz_SR := List.mem_of_getElem? (i := 9) (by decide +kernel)
theorem ld7_151 : (cz_on 7, 151, "alp", (1 : UInt32).toNat) ∈ cz_SR := List.mem_of_getElem? (i := 10) (by decide +kernel)
theorem lk7_152 : Cond.methodLink (cz_on 7) 152 (cz_nm mX7_lineWord) ∈ cz_T := cz_in (i := 681) (by decide +kernel) rfl
theorem fl7_156 : cz_fl 7 156 = some (0, 9, 0, false) := by decide +kernel
theorem fl7_159 : cz_fl 7 159 = some (0, 11, 0, false) := by decide +kernel
theorem fl7_162 : cz_fl 7 162 = some (0, 13, 0, false) := by decide +kernel
theorem fl7_165 : cz_fl 7 165 = some (0, 3, 0, false) := by decide +kernel
theorem lk7_168 : Cond.methodLink (cz_on 7) 168 (cz_nm mX7_sortOfWord) ∈ cz_T := cz_in (i := 677) (by decide +kernel) rfl
theorem lk7_171 : Cond.methodLink (cz_on 7) 171 (cz_nm mX7_isToldAgain) ∈ cz_T := cz_in (i := 750) (by decide +kernel) rfl
theorem lk7_174 : Cond.methodLink (cz_on 7) 174 (cz_nm mX7_isFull) ∈ cz_T := cz_in (i := 754) (by decide +kernel) rfl
theorem lk7_177 : Cond.methodLink (cz_on 7) 177 (cz_nm mX7_readAlp) ∈ cz_T := cz_in (i := 758) (by decide +kernel) rfl
theorem lk7_180 : Cond.methodLink (cz_on 7) 180 (cz_nm mX7_readCheese) ∈ cz_T := cz_in (i := 785) (by decide +kernel) rfl
theorem fl7_183 : cz_fl 7 183 = some (0, 8, 1, false) := by decide +kernel
theorem lk7_186 : Cond.methodLink (cz_on 7) 186 (cz_nm mX7_readMinutes) ∈ cz_T := cz_in (i := 811) (by decide +kernel) rfl
theorem lk7_190 : Cond.methodLink (cz_on 7) 190 (cz_nm mX7_readTurner) ∈ cz_T := cz_in (i := 815) (by decide +kernel) rfl
theorem lk7_193 : Cond.methodLink (cz_on 7) 193 (cz_nm mX7_readCall) ∈ cz_T := cz_in (i := 841) (by decide +kernel) rfl
theorem fl7_196 : cz_fl 7 196 = some (0, 14, 1, false) := by decide +kernel
theorem lk7_200 : Cond.methodLink (cz_on 7) 200 (cz_nm mX7_readEvent) ∈ cz_T := cz_in (i := 848) (by decide +kernel) rfl
theorem ld7_203 : (cz_on 7, 203, "minutes", (18 : UInt32).toNat) ∈ cz_SR := List.mem_of_getElem? (i := 11) (by decide +kernel)
theorem ld7_204 : (cz_on 7, 204, "huts", (16 : UInt32).toNat) ∈ cz_SR := List.mem_of_getElem? (i := 12) (by decide +kernel)
theorem ld7_205 : (cz_on 7, 205, "prices", (20 : UInt32).toNat) ∈ cz_SR := List.mem_of_getElem? (i := 13) (by decide +kernel)
theorem fl7_207 : cz_fl 7 207 = some (0, 2, 1, false) := by decide +kernel
theorem lk7_210 : Cond.methodLink (cz_on 7) 210 (cz_nm mX7_takeComma) ∈ cz_T := cz_in (i := 781) (by decide +kernel) rfl
theorem fl7_213 : cz_fl 7 213 = some (0, 4, 1, false) := by decide +kernel
theorem fl7_217 : cz_fl 7 217 = some (2, 0, 0, false) := by decide +kernel
theorem fl7_220 : cz_fl 7 220 = some (2, 1, 0, false) := by decide +kernel
theorem lk7_223 : Cond.methodLink (cz_on 7) 223 (cz_nm mX7_takeHut) ∈ cz_T := cz_in (i := 807) (by decide +kernel) rfl
theorem lk7_226 : Cond.methodLink (cz_on 7) 226 (cz_nm mX7_takeSpan) ∈ cz_T := cz_in (i := 827) (by decide +kernel) rfl
theorem fl7_229 : cz_fl 7 229 = some (2, 2, 0, false) := by decide +kernel
theorem fl7_230 : cz_fl 7 230 = some (2, 3, 0, false) := by decide +kernel
theorem lk7_231 : Cond.methodLink (cz_on 7) 231 (cz_nm mX7_seesNewName) ∈ cz_T := cz_in (i := 789) (by decide +kernel) rfl
theorem ld7_234 : (cz_on 7, 234, "hut", (15 : UInt32).toNat) ∈ cz_SR := List.mem_of_getElem? (i := 15) (by decide +kernel)
theorem fl7_235 : cz_fl 7 235 = some (0, 6, 1, false) := by decide +kernel
theorem ld7_238 : (cz_on 7, 238, "down", (10 : UInt32).toNat) ∈ cz_SR := List.mem_of_getElem? (i := 14) (by decide +kernel)
theorem fl7_240 : cz_fl 7 240 = some (0, 7, 0, false) := by decide +kernel
theorem fl7_243 : cz_fl 7 243 = some (0, 10, 1, false) := by decide +kernel
theorem lk7_247 : Cond.methodLink (cz_on 7) 247 (cz_nm mX7_turnerKind) ∈ cz_T := cz_in (i := 819) (by decide +kernel) rfl
theorem fl7_250 : cz_fl 7 250 = some (9, 0, 0, false) := by decide +kernel
theorem ld7_253 : (cz_on 7, 253, "from", (13 : UInt32).toNat) ∈ cz_SR := List.mem_of_getElem? (i := 19) (by decide +kernel)
theorem fl7_254 : cz_fl 7 254 = some (9, 1, 0, false) := by decide +kernel
theorem fl7_255 : cz_fl 7 255 = some (9, 2, 0, false) := by decide +kernel
theorem ld7_256 : (cz_on 7, 256, "hands", (14 : UInt32).toNat) ∈ cz_SR := List.mem_of_getElem? (i := 21) (by decide +kernel)
theorem fl7_258 : cz_fl 7 258 = some (9, 3, 0, false) := by decide +kernel
theorem ld7_260 : (cz_on 7, 260, "takes", (24 : UInt32).toNat) ∈ cz_SR := List.mem_of_getElem? (i := 22) (by decide +kernel)
theorem fl7_262 : cz_fl 7 262 = some (9, 4, 0, false) := by decide +kernel
theorem lk7_264 : Cond.methodLink (cz_on 7) 264 (cz_nm mX7_readHuts) ∈ cz_T := cz_in (i := 834) (by decide +kernel) rfl
theorem ld7_268 : (cz_on 7, 268, "sees", (21 : UInt32).toNat) ∈ cz_SR := List.mem_of_getElem? (i := 16) (by decide +kernel)
theorem ld7_270 : (cz_on 7, 270, "blind", (3 : UInt32).toNat) ∈ cz_SR := List.mem_of_getElem? (i := 17) (by decide +kernel)
theorem ld7_272 : (cz_on 7, 272, "deaf", (9 : UInt32).toNat) ∈ cz_SR := List.mem_of_getElem? (i := 18) (by decide +kernel)
theorem fl7_274 : cz_fl 7 274 = some (9, 5, 0, false) := by decide +kernel
theorem lk7_275 : (cz_on 7, 275, cz_nm mX10_bit, "EclipseCheese") ∈ cz_NM := List.mem_of_getElem? (i := 7) (by decide +kernel)
theorem lk7_279 : Cond.methodLink (cz_on 7) 279 (cz_nm mX7_seesName) ∈ cz_T := cz_in (i := 793) (by decide +kernel) rfl
theorem lk7_282 : Cond.methodLink (cz_on 7) 282 (cz_nm mX7_namedTurner) ∈ cz_T := cz_in (i := 802) (by decide +kernel) rfl
theorem fl7_285 : cz_fl 7 285 = some (0, 12, 1, false) := by decide +kernel
theorem fl7_289 : cz_fl 7 289 = some (1, 0, 0, false) := by decide +kernel
theorem ld7_293 : (cz_on 7, 293, "at", (2 : UInt32).toNat) ∈ cz_SR := List.mem_of_getElem? (i := 23) (by decide +kernel)
theorem fl7_295 : cz_fl 7 295 = some (1, 1, 0, false) := by decide +kernel
theorem ld7_297 : (cz_on 7, 297, "for", (12 : UInt32).toNat) ∈ cz_SR := List.mem_of_getElem? (i := 24) (by decide +kernel)
theorem fl7_299 : cz_fl 7 299 = some (1, 2, 0, false) := by decide +kernel
theorem ld7_302 : (cz_on 7, 302, "costs", (8 : UInt32).toNat) ∈ cz_SR := List.mem_of_getElem? (i := 25) (by decide +kernel)
theorem fl7_304 : cz_fl 7 304 = some (1, 3, 0, false) := by decide +kernel
theorem fl7_306 : cz_fl 7 306 = some (4, 0, 0, false) := by decide +kernel
theorem fl7_311 : cz_fl 7 311 = some (4, 1, 1, false) := by decide +kernel
theorem lk7_313 : Cond.methodLink (cz_on 7) 313 (cz_nm mX7_isToldCheese) ∈ cz_T := cz_in (i := 798) (by decide +kernel) rfl
theorem lk8_3 : Cond.methodLink (cz_on 8) 3 objectInit ∈ cz_T := cz_in (i := 481) (by decide +kernel) rfl
theorem fl8_9 : cz_fl 8 9 = some (8, 2, 1, false) := by decide +kernel
theorem fl8_15 : cz_fl 8 15 = some (8, 3, 1, false) := by decide +kernel
theorem fl8_18 : cz_fl 8 18 = some (8, 4, 1, false) := by decide +kernel
theorem fl8_21 : cz_fl 8 21 = some (8, 5, 1, false) := by decide +kernel
theorem fl8_25 : cz_fl 8 25 = some (8, 6, 1, false) := by decide +kernel
theorem fl8_28 : cz_fl 8 28 = some (8, 7, 1, false) := by decide +kernel
theorem fl8_31 : cz_fl 8 31 = some (8, 8, 1, false) := by decide +kernel
theorem fl8_34 : cz_fl 8 34 = some (8, 9, 1, false) := by decide +kernel
theorem fl8_37 : cz_fl 8 37 = some (8, 11, 1, false) := by decide +kernel
theorem fl8_40 : cz_fl 8 40 = some (0, 0, 0, false) := by decide +kernel
theorem fl8_46 : cz_fl 8 46 = some (8, 0, 0, false) := by decide +kernel
theorem fl8_47 : cz_fl 8 47 = some (0, 1, 0, false) := by decide +kernel
theorem fl8_50 : cz_fl 8 50 = some (8, 1, 0, false) := by decide +kernel
theorem lk8_53 : Cond.methodLink (cz_on 8) 53 (cz_nm mX8_wipe) ∈ cz_T := cz_in (i := 892) (by decide +kernel) rfl
theorem fl8_56 : cz_fl 8 56 = some (0, 3, 0, false) := by decide +kernel
theorem fl8_59 : cz_fl 8 59 = some (0, 4, 1, false) := by decide +kernel
theorem lk8_63 : Cond.methodLink (cz_on 8) 63 (cz_nm mX8_layEvent) ∈ cz_T := cz_in (i := 896) (by decide +kernel) rfl
theorem fl8_67 : cz_fl 8 67 = some (3, 2, 0, false) := by decide +kernel
theorem fl8_72 : cz_fl 8 72 = some (3, 3, 1, false) := by decide +kernel
theorem fl8_75 : cz_fl 8 75 = some (3, 4, 1, false) := by decide +kernel
theorem lk8_78 : Cond.methodLink (cz_on 8) 78 (cz_nm mX8_layCloud) ∈ cz_T := cz_in (i := 900) (by decide +kernel) rfl
theorem lk8_82 : Cond.methodLink (cz_on 8) 82 (cz_nm mX8_findLight) ∈ cz_T := cz_in (i := 904) (by decide +kernel) rfl
theorem fl8_85 : cz_fl 8 85 = some (0, 8, 1, false) := by decide +kernel
theorem lk8_89 : Cond.methodLink (cz_on 8) 89 (cz_nm mX8_findStirs) ∈ cz_T := cz_in (i := 912) (by decide +kernel) rfl
theorem fl8_93 : cz_fl 8 93 = some (2, 2, 0, false) := by decide +kernel
theorem fl8_97 : cz_fl 8 97 = some (2, 3, 0, false) := by decide +kernel
theorem fl8_99 : cz_fl 8 99 = some (2, 0, 0, false) := by decide +kernel
theorem fl8_102 : cz_fl 8 102 = some (2, 1, 0, false) := by decide +kernel
theorem lk8_105 : Cond.methodLink (cz_on 8) 105 (cz_nm mX8_isBright) ∈ cz_T := cz_in (i := 908) (by decide +kernel) rfl
theorem fl8_109 : cz_fl 8 109 = some (8, 10, 0, false) := by decide +kernel
theorem lk8_112 : Cond.methodLink (cz_on 8) 112 (cz_nm mX4_holds) ∈ cz_T := cz_in (i := 916) (by decide +kernel) rfl
theorem lk9_1 : Cond.methodLink (cz_on 9) 1 objectInit ∈ cz_T := cz_in (i := 226) (by decide +kernel) rfl
theorem lk10_1 : Cond.methodLink (cz_on 10) 1 objectInit ∈ cz_T := cz_in (i := 159) (by decide +kernel) rfl
theorem fl10_9 : cz_fl 10 9 = some (10, 0, 1, false) := by decide +kernel
theorem lc10_13 : Cond.classLink (cz_on 10) 13 (cz_on 0) ∈ cz_T := cz_in (i := 162) (by decide +kernel) rfl
theorem lk10_15 : Cond.methodLink (cz_on 10) 15 (cz_nm mX0_init) ∈ cz_T := cz_in (i := 164) (by decide +kernel) rfl
theorem fl10_16 : cz_fl 10 16 = some (10, 2, 1, false) := by decide +kernel
theorem fl10_20 : cz_fl 10 20 = some (10, 3, 1, false) := by decide +kernel
theorem lc10_23 : Cond.classLink (cz_on 10) 23 (cz_on 7) ∈ cz_T := cz_in (i := 361) (by decide +kernel) rfl
theorem lk10_25 : Cond.methodLink (cz_on 10) 25 (cz_nm mX7_init) ∈ cz_T := cz_in (i := 363) (by decide +kernel) rfl
theorem fl10_28 : cz_fl 10 28 = some (10, 4, 1, false) := by decide +kernel
theorem lc10_32 : Cond.classLink (cz_on 10) 32 (cz_on 3) ∈ cz_T := cz_in (i := 422) (by decide +kernel) rfl
theorem lk10_34 : (cz_on 10, 34, cz_nm mX3_init, "EclipseCheese") ∈ cz_NM := List.mem_of_getElem? (i := 4) (by decide +kernel)
theorem fl10_35 : cz_fl 10 35 = some (10, 6, 1, false) := by decide +kernel
theorem lc10_39 : Cond.classLink (cz_on 10) 39 (cz_on 6) ∈ cz_T := cz_in (i := 452) (by decide +kernel) rfl
theorem lk10_41 : Cond.methodLink (cz_on 10) 41 (cz_nm mX6_init) ∈ cz_T := cz_in (i := 454) (by decide +kernel) rfl
theorem fl10_42 : cz_fl 10 42 = some (10, 7, 1, false) := by decide +kernel
theorem lc10_46 : Cond.classLink (cz_on 10) 46 (cz_on 8) ∈ cz_T := cz_in (i := 476) (by decide +kernel) rfl
theorem lk10_48 : (cz_on 10, 48, cz_nm mX8_init, "EclipseCheese") ∈ cz_NM := List.mem_of_getElem? (i := 6) (by decide +kernel)
theorem fl10_49 : cz_fl 10 49 = some (10, 8, 1, false) := by decide +kernel
theorem lc10_53 : Cond.classLink (cz_on 10) 53 (cz_on 5) ∈ cz_T := cz_in (i := 530) (by decide +kernel) rfl
theorem lk10_55 : Cond.methodLink (cz_on 10) 55 (cz_nm mX5_init) ∈ cz_T := cz_in (i := 532) (by decide +kernel) rfl
theorem fl10_58 : cz_fl 10 58 = some (10, 10, 1, false) := by decide +kernel
theorem fl10_62 : cz_fl 10 62 = some (10, 12, 1, false) := by decide +kernel
theorem fl10_65 : cz_fl 10 65 = some (10, 13, 1, false) := by decide +kernel
theorem fl10_68 : cz_fl 10 68 = some (10, 14, 1, false) := by decide +kernel
theorem fl10_71 : cz_fl 10 71 = some (10, 1, 0, false) := by decide +kernel
theorem lk10_75 : Cond.methodLink (cz_on 10) 75 (cz_nm mX10_putBytes) ∈ cz_T := cz_in (i := 639) (by decide +kernel) rfl
theorem lk10_79 : Cond.methodLink (cz_on 10) 79 (cz_nm mX10_refused) ∈ cz_T := cz_in (i := 647) (by decide +kernel) rfl
theorem lk10_83 : Cond.methodLink (cz_on 10) 83 (cz_nm mX7_readAll) ∈ cz_T := cz_in (i := 651) (by decide +kernel) rfl
theorem fl10_87 : cz_fl 10 87 = some (7, 15, 0, false) := by decide +kernel
theorem fl10_90 : cz_fl 10 90 = some (10, 15, 0, false) := by decide +kernel
theorem fl10_91 : cz_fl 10 91 = some (7, 16, 0, false) := by decide +kernel
theorem fl10_94 : cz_fl 10 94 = some (10, 16, 0, false) := by decide +kernel
theorem fl10_95 : cz_fl 10 95 = some (10, 5, 3, false) := by decide +kernel
theorem lk10_99 : Cond.methodLink (cz_on 10) 99 (cz_nm mX3_clear) ∈ cz_T := cz_in (i := 852) (by decide +kernel) rfl
theorem lk10_102 : Cond.methodLink (cz_on 10) 102 (cz_nm mX6_clear) ∈ cz_T := cz_in (i := 856) (by decide +kernel) rfl
theorem lk10_103 : Cond.methodLink (cz_on 10) 103 (cz_nm mX10_cloudsMoved) ∈ cz_T := cz_in (i := 860) (by decide +kernel) rfl
theorem fl10_106 : cz_fl 10 106 = some (0, 5, 0, false) := by decide +kernel
theorem lk10_109 : Cond.methodLink (cz_on 10) 109 (cz_nm mX10_answered) ∈ cz_T := cz_in (i := 864) (by decide +kernel) rfl
theorem fl10_112 : cz_fl 10 112 = some (10, 17, 0, false) := by decide +kernel
theorem lk10_115 : Cond.methodLink (cz_on 10) 115 (cz_nm mX10_isMinute) ∈ cz_T := cz_in (i := 880) (by decide +kernel) rfl
theorem lk10_119 : Cond.methodLink (cz_on 10) 119 (cz_nm mX10_presentSky) ∈ cz_T := cz_in (i := 884) (by decide +kernel) rfl
theorem lk10_123 : Cond.methodLink (cz_on 10) 123 (cz_nm mX8_isBright) ∈ cz_T := cz_in (i := 920) (by decide +kernel) rfl
theorem lk10_126 : Cond.methodLink (cz_on 10) 126 (cz_nm mX10_isHut) ∈ cz_T := cz_in (i := 925) (by decide +kernel) rfl
theorem fl10_129 : cz_fl 10 129 = some (8, 7, 1, false) := by decide +kernel
theorem fl10_133 : cz_fl 10 133 = some (8, 6, 1, false) := by decide +kernel
theorem lk10_136 : Cond.methodLink (cz_on 10) 136 (cz_nm mX10_bit) ∈ cz_T := cz_in (i := 929) (by decide +kernel) rfl
theorem fl10_140 : cz_fl 10 140 = some (8, 9, 1, false) := by decide +kernel
theorem fl10_143 : cz_fl 10 143 = some (8, 8, 1, false) := by decide +kernel
theorem fl10_146 : cz_fl 10 146 = some (0, 0, 0, false) := by decide +kernel
theorem lk10_149 : Cond.methodLink (cz_on 10) 149 (cz_nm mX0_cheesesIn) ∈ cz_T := cz_in (i := 942) (by decide +kernel) rfl
theorem lk10_152 : Cond.methodLink (cz_on 10) 152 (cz_nm mX10_isTurner) ∈ cz_T := cz_in (i := 955) (by decide +kernel) rfl
theorem lk10_155 : Cond.methodLink (cz_on 10) 155 (cz_nm mX10_presentNight) ∈ cz_T := cz_in (i := 959) (by decide +kernel) rfl
theorem lk10_159 : Cond.methodLink (cz_on 10) 159 (cz_nm mX5_isAwake) ∈ cz_T := cz_in (i := 1008) (by decide +kernel) rfl
theorem lk10_163 : Cond.methodLink (cz_on 10) 163 (cz_nm mX5_noticedHuts) ∈ cz_T := cz_in (i := 1013) (by decide +kernel) rfl
theorem fl10_166 : cz_fl 10 166 = some (5, 8, 1, false) := by decide +kernel
theorem fl10_169 : cz_fl 10 169 = some (5, 9, 1, false) := by decide +kernel
theorem fl10_172 : cz_fl 10 172 = some (5, 10, 1, false) := by decide +kernel
theorem lk10_175 : Cond.methodLink (cz_on 10) 175 (cz_nm mX5_minutesAwake) ∈ cz_T := cz_in (i := 1018) (by decide +kernel) rfl
theorem lk10_178 : Cond.methodLink (cz_on 10) 178 (cz_nm mX10_refusedTotal) ∈ cz_T := cz_in (i := 1026) (by decide +kernel) rfl
theorem fl10_181 : cz_fl 10 181 = some (3, 0, 0, false) := by decide +kernel
theorem lk10_184 : Cond.methodLink (cz_on 10) 184 (cz_nm mX10_allTurners) ∈ cz_T := cz_in (i := 963) (by decide +kernel) rfl
theorem lk10_188 : Cond.methodLink (cz_on 10) 188 (cz_nm mX5_play) ∈ cz_T := cz_in (i := 967) (by decide +kernel) rfl
theorem lk10_192 : Cond.methodLink (cz_on 10) 192 (cz_nm mX5_sum) ∈ cz_T := cz_in (i := 1031) (by decide +kernel) rfl
theorem lk10_195 : Cond.methodLink (cz_on 10) 195 (cz_nm mX10_isCheese) ∈ cz_T := cz_in (i := 1050) (by decide +kernel) rfl
theorem lk10_198 : Cond.methodLink (cz_on 10) 198 (cz_nm mX5_turnerOf) ∈ cz_T := cz_in (i := 1054) (by decide +kernel) rfl
theorem lk10_201 : Cond.methodLink (cz_on 10) 201 (cz_nm mX5_liesUp) ∈ cz_T := cz_in (i := 1062) (by decide +kernel) rfl
theorem fl10_204 : cz_fl 10 204 = some (0, 6, 1, false) := by decide +kernel
theorem fl10_207 : cz_fl 10 207 = some (5, 4, 1, false) := by decide +kernel
theorem fl10_210 : cz_fl 10 210 = some (5, 5, 1, false) := by decide +kernel
theorem fl10_213 : cz_fl 10 213 = some (5, 6, 1, false) := by decide +kernel
theorem fl10_216 : cz_fl 10 216 = some (5, 7, 1, false) := by decide +kernel
theorem lk10_219 : Cond.methodLink (cz_on 10) 219 (cz_nm mX5_price) ∈ cz_T := cz_in (i := 1075) (by decide +kernel) rfl
theorem lk10_222 : Cond.methodLink (cz_on 10) 222 (cz_nm mX10_veinMinute) ∈ cz_T := cz_in (i := 1080) (by decide +kernel) rfl
theorem lk10_225 : Cond.methodLink (cz_on 10) 225 (cz_nm mX10_eventCount) ∈ cz_T := cz_in (i := 1092) (by decide +kernel) rfl
theorem lk10_228 : Cond.methodLink (cz_on 10) 228 (cz_nm mX10_eventFrom) ∈ cz_T := cz_in (i := 1096) (by decide +kernel) rfl
theorem lk10_231 : Cond.methodLink (cz_on 10) 231 (cz_nm mX10_eventTo) ∈ cz_T := cz_in (i := 1100) (by decide +kernel) rfl
theorem lk10_234 : Cond.methodLink (cz_on 10) 234 (cz_nm mX10_isEvent) ∈ cz_T := cz_in (i := 1112) (by decide +kernel) rfl
theorem lk10_237 : Cond.methodLink (cz_on 10) 237 (cz_nm mX8_build) ∈ cz_T := cz_in (i := 888) (by decide +kernel) rfl
theorem lk10_241 : Cond.methodLink (cz_on 10) 241 (cz_nm mX10_bestCalls) ∈ cz_T := cz_in (i := 1120) (by decide +kernel) rfl
theorem lk10_244 : Cond.methodLink (cz_on 10) 244 (cz_nm mX10_fewestTurners) ∈ cz_T := cz_in (i := 1142) (by decide +kernel) rfl
theorem lk10_247 : Cond.methodLink (cz_on 10) 247 (cz_nm mJ6_bitCount_0f7a4) ∈ cz_T := cz_in (i := 1128) (by decide +kernel) rfl
theorem lk10_252 : Cond.methodLink (cz_on 10) 252 (cz_nm mX10_isSlice) ∈ cz_T := cz_in (i := 1158) (by decide +kernel) rfl
theorem fl10_255 : cz_fl 10 255 = some (0, 14, 1, false) := by decide +kernel
theorem lk10_259 : Cond.methodLink (cz_on 10) 259 (cz_nm mX5_cheesesWithVeins) ∈ cz_T := cz_in (i := 1162) (by decide +kernel) rfl
theorem lk10_263 : Cond.methodLink (cz_on 10) 263 (cz_nm mX10_allCalls) ∈ cz_T := cz_in (i := 1124) (by decide +kernel) rfl
theorem lk10_266 : Cond.methodLink (cz_on 10) 266 (cz_nm mX10_isSeed) ∈ cz_T := cz_in (i := 1178) (by decide +kernel) rfl
theorem fl10_269 : cz_fl 10 269 = some (3, 1, 0, false) := by decide +kernel
theorem fl10_272 : cz_fl 10 272 = some (3, 2, 0, false) := by decide +kernel
theorem lk10_275 : Cond.methodLink (cz_on 10) 275 (cz_nm mX3_addDrawn) ∈ cz_T := cz_in (i := 1182) (by decide +kernel) rfl
theorem fl10_278 : cz_fl 10 278 = some (0, 11, 0, false) := by decide +kernel
theorem lk10_281 : Cond.methodLink (cz_on 10) 281 (cz_nm mX10_refusedAct) ∈ cz_T := cz_in (i := 1202) (by decide +kernel) rfl
theorem lk10_284 : Cond.methodLink (cz_on 10) 284 (cz_nm mX6_keepAct) ∈ cz_T := cz_in (i := 1206) (by decide +kernel) rfl
theorem fl10_288 : cz_fl 10 288 = some (10, 11, 3, false) := by decide +kernel
theorem lk10_291 : Cond.methodLink (cz_on 10) 291 (cz_nm mX10_allowed) ∈ cz_T := cz_in (i := 1218) (by decide +kernel) rfl
theorem lk10_295 : Cond.methodLink (cz_on 10) 295 (cz_nm mX3_add) ∈ cz_T := cz_in (i := 1230) (by decide +kernel) rfl
theorem lk10_299 : Cond.methodLink (cz_on 10) 299 (cz_nm mX6_takeBack) ∈ cz_T := cz_in (i := 1247) (by decide +kernel) rfl
theorem lk10_303 : Cond.methodLink (cz_on 10) 303 (cz_nm mX6_keepMark) ∈ cz_T := cz_in (i := 1255) (by decide +kernel) rfl
theorem lk10_307 : Cond.methodLink (cz_on 10) 307 (cz_nm mX6_goBack) ∈ cz_T := cz_in (i := 1263) (by decide +kernel) rfl
theorem fl10_311 : cz_fl 10 311 = some (0, 3, 0, false) := by decide +kernel
theorem fl10_313 : cz_fl 10 313 = some (0, 4, 1, false) := by decide +kernel
theorem fl10_317 : cz_fl 10 317 = some (2, 0, 0, false) := by decide +kernel
theorem fl10_322 : cz_fl 10 322 = some (2, 1, 0, false) := by decide +kernel
theorem ld10_327 : (cz_on 10, 327, "no such cheese missed anything", (19 : UInt32).toNat) ∈ cz_SR := List.mem_of_getElem? (i := 26) (by decide +kernel)
theorem fl10_332 : cz_fl 10 332 = some (0, 1, 0, false) := by decide +kernel
theorem fl10_335 : cz_fl 10 335 = some (0, 9, 0, false) := by decide +kernel
theorem fl10_338 : cz_fl 10 338 = some (0, 13, 0, false) := by decide +kernel
theorem fl10_341 : cz_fl 10 341 = some (0, 8, 1, false) := by decide +kernel
theorem fl10_345 : cz_fl 10 345 = some (4, 0, 0, false) := by decide +kernel
theorem fl10_350 : cz_fl 10 350 = some (6, 0, 0, false) := by decide +kernel
theorem fl10_353 : cz_fl 10 353 = some (6, 2, 0, false) := by decide +kernel
theorem ld10_356 : Cond.constant (cz_on 10) 356 (-100000) ∈ cz_T := cz_in (i := 1030) (by decide +kernel) rfl
theorem ld10_357 : Cond.constant (cz_on 10) 357 (65537) ∈ cz_T := cz_in (i := 1181) (by decide +kernel) rfl
theorem fl10_358 : cz_fl 10 358 = some (10, 9, 3, false) := by decide +kernel
theorem fl10_361 : cz_fl 10 361 = some (2, 2, 0, false) := by decide +kernel
theorem fl10_364 : cz_fl 10 364 = some (3, 3, 1, false) := by decide +kernel
theorem fl10_366 : cz_fl 10 366 = some (2, 3, 0, false) := by decide +kernel
theorem fl10_369 : cz_fl 10 369 = some (3, 4, 1, false) := by decide +kernel
theorem lk10_371 : Cond.methodLink (cz_on 10) 371 (cz_nm mX5_minuteOfVein) ∈ cz_T := cz_in (i := 1084) (by decide +kernel) rfl
theorem lk10_374 : Cond.methodLink (cz_on 10) 374 (cz_nm mX5_missesAny) ∈ cz_T := cz_in (i := 1146) (by decide +kernel) rfl
theorem lk11_3 : Cond.methodLink (cz_on 11) 3 objectInit ∈ cz_T := cz_in (i := 1488) (by decide +kernel) rfl
theorem fl11_9 : cz_fl 11 9 = some (11, 10, 1, false) := by decide +kernel
theorem fl11_15 : cz_fl 11 15 = some (11, 11, 1, false) := by decide +kernel
theorem fl11_18 : cz_fl 11 18 = some (11, 12, 1, false) := by decide +kernel
theorem fl11_21 : cz_fl 11 21 = some (11, 13, 1, false) := by decide +kernel
theorem fl11_24 : cz_fl 11 24 = some (11, 14, 1, false) := by decide +kernel
theorem fl11_27 : cz_fl 11 27 = some (11, 15, 1, false) := by decide +kernel
theorem fl11_30 : cz_fl 11 30 = some (11, 16, 1, false) := by decide +kernel
theorem fl11_33 : cz_fl 11 33 = some (11, 17, 1, false) := by decide +kernel
theorem fl11_36 : cz_fl 11 36 = some (11, 18, 1, false) := by decide +kernel
theorem fl11_39 : cz_fl 11 39 = some (11, 19, 1, false) := by decide +kernel
theorem fl11_43 : cz_fl 11 43 = some (11, 20, 1, false) := by decide +kernel
theorem fl11_46 : cz_fl 11 46 = some (11, 21, 1, false) := by decide +kernel
theorem fl11_49 : cz_fl 11 49 = some (11, 22, 1, false) := by decide +kernel
theorem fl11_52 : cz_fl 11 52 = some (11, 23, 1, false) := by decide +kernel
theorem fl11_55 : cz_fl 11 55 = some (11, 24, 1, false) := by decide +kernel
theorem fl11_58 : cz_fl 11 58 = some (11, 25, 1, false) := by decide +kernel
theorem fl11_61 : cz_fl 11 61 = some (11, 26, 1, false) := by decide +kernel
theorem fl11_64 : cz_fl 11 64 = some (11, 27, 1, false) := by decide +kernel
theorem fl11_67 : cz_fl 11 67 = some (11, 28, 1, false) := by decide +kernel
theorem fl11_70 : cz_fl 11 70 = some (11, 29, 1, false) := by decide +kernel
theorem fl11_73 : cz_fl 11 73 = some (11, 30, 1, false) := by decide +kernel
theorem fl11_77 : cz_fl 11 77 = some (11, 31, 1, false) := by decide +kernel
theorem fl11_80 : cz_fl 11 80 = some (11, 32, 1, false) := by decide +kernel
theorem fl11_83 : cz_fl 11 83 = some (11, 7, 0, false) := by decide +kernel
theorem lk12_3 : Cond.methodLink (cz_on 12) 3 objectInit ∈ cz_T := cz_in (i := 1357) (by decide +kernel) rfl
theorem fl12_9 : cz_fl 12 9 = some (12, 2, 0, false) := by decide +kernel
theorem fl12_13 : cz_fl 12 13 = some (12, 5, 1, false) := by decide +kernel
theorem fl12_17 : cz_fl 12 17 = some (12, 16, 1, false) := by decide +kernel
theorem fl12_21 : cz_fl 12 21 = some (12, 17, 1, false) := by decide +kernel
theorem fl12_24 : cz_fl 12 24 = some (12, 18, 1, false) := by decide +kernel
theorem fl12_27 : cz_fl 12 27 = some (12, 21, 1, false) := by decide +kernel
theorem fl12_31 : cz_fl 12 31 = some (12, 22, 1, false) := by decide +kernel
theorem fl12_34 : cz_fl 12 34 = some (12, 23, 1, false) := by decide +kernel
theorem fl12_37 : cz_fl 12 37 = some (12, 24, 1, false) := by decide +kernel
theorem fl12_40 : cz_fl 12 40 = some (12, 25, 1, false) := by decide +kernel
theorem fl12_43 : cz_fl 12 43 = some (12, 26, 1, false) := by decide +kernel
theorem fl12_46 : cz_fl 12 46 = some (12, 27, 1, false) := by decide +kernel
theorem fl12_49 : cz_fl 12 49 = some (12, 28, 1, false) := by decide +kernel
theorem fl12_52 : cz_fl 12 52 = some (12, 29, 1, false) := by decide +kernel
theorem fl12_55 : cz_fl 12 55 = some (12, 30, 1, false) := by decide +kernel
theorem fl12_58 : cz_fl 12 58 = some (12, 31, 1, false) := by decide +kernel
theorem fl12_61 : cz_fl 12 61 = some (12, 32, 1, false) := by decide +kernel
theorem fl12_64 : cz_fl 12 64 = some (12, 33, 1, false) := by decide +kernel
theorem fl12_67 : cz_fl 12 67 = some (12, 35, 1, false) := by decide +kernel
theorem fl12_70 : cz_fl 12 70 = some (12, 0, 0, false) := by decide +kernel
theorem fl12_73 : cz_fl 12 73 = some (12, 1, 0, false) := by decide +kernel
theorem lk12_76 : Cond.methodLink (cz_on 12) 76 (cz_nm mX12_refused) ∈ cz_T := cz_in (i := 1479) (by decide +kernel) rfl
theorem ld12_80 : Cond.constant (cz_on 12) 80 (-100000) ∈ cz_T := cz_in (i := 1905) (by decide +kernel) rfl
theorem lk12_81 : Cond.methodLink (cz_on 12) 81 (cz_nm mX12_good) ∈ cz_T := cz_in (i := 1761) (by decide +kernel) rfl
theorem fl12_84 : cz_fl 12 84 = some (12, 7, 0, false) := by decide +kernel
theorem ld12_93 : Cond.constantLong (cz_on 12) 93 (32) ∈ cz_T := cz_in (i := 1624) (by decide +kernel) rfl
theorem fl12_99 : cz_fl 12 99 = some (12, 9, 0, false) := by decide +kernel
theorem fl12_102 : cz_fl 12 102 = some (12, 8, 0, false) := by decide +kernel
theorem lk12_105 : Cond.methodLink (cz_on 12) 105 (cz_nm mX12_byteAt) ∈ cz_T := cz_in (i := 1617) (by decide +kernel) rfl
theorem fl12_108 : cz_fl 12 108 = some (12, 10, 0, false) := by decide +kernel
theorem fl12_111 : cz_fl 12 111 = some (12, 11, 0, false) := by decide +kernel
theorem lk12_114 : Cond.methodLink (cz_on 12) 114 (cz_nm mX12_isLetter) ∈ cz_T := cz_in (i := 1621) (by decide +kernel) rfl
theorem fl12_118 : cz_fl 12 118 = some (12, 15, 2, false) := by decide +kernel
theorem lk12_122 : Cond.methodLink (cz_on 12) 122 (cz_nm mX12_isDigit) ∈ cz_T := cz_in (i := 1625) (by decide +kernel) rfl
theorem fl12_125 : cz_fl 12 125 = some (12, 12, 0, false) := by decide +kernel
theorem fl12_128 : cz_fl 12 128 = some (12, 13, 0, false) := by decide +kernel
theorem fl12_131 : cz_fl 12 131 = some (12, 14, 0, false) := by decide +kernel
theorem lk12_134 : Cond.methodLink (cz_on 12) 134 (cz_nm mX12_wordOf) ∈ cz_T := cz_in (i := 1641) (by decide +kernel) rfl
theorem lk12_138 : Cond.methodLink (cz_on 12) 138 (cz_nm mX12_isWord) ∈ cz_T := cz_in (i := 1637) (by decide +kernel) rfl
theorem lk12_142 : Cond.methodLink (cz_on 12) 142 (cz_nm mX12_goesOn) ∈ cz_T := cz_in (i := 1613) (by decide +kernel) rfl
theorem lk12_145 : Cond.methodLink (cz_on 12) 145 (cz_nm mX12_flaw) ∈ cz_T := cz_in (i := 1650) (by decide +kernel) rfl
theorem lk12_149 : Cond.methodLink (cz_on 12) 149 (cz_nm mX12_in) ∈ cz_T := cz_in (i := 1671) (by decide +kernel) rfl
theorem lk12_153 : Cond.methodLink (cz_on 12) 153 (cz_nm mX12_bounded) ∈ cz_T := cz_in (i := 1667) (by decide +kernel) rfl
theorem lk12_157 : Cond.methodLink (cz_on 12) 157 (cz_nm mX12_needs) ∈ cz_T := cz_in (i := 1659) (by decide +kernel) rfl
theorem lk12_161 : Cond.methodLink (cz_on 12) 161 (cz_nm mX12_readWhole) ∈ cz_T := cz_in (i := 1663) (by decide +kernel) rfl
theorem ld12_164 : (cz_on 12, 164, "alp", (1 : UInt32).toNat) ∈ cz_SR := List.mem_of_getElem? (i := 27) (by decide +kernel)
theorem ld12_166 : (cz_on 12, 166, "cloud", (7 : UInt32).toNat) ∈ cz_SR := List.mem_of_getElem? (i := 31) (by decide +kernel)
theorem ld12_168 : (cz_on 12, 168, "eclipse", (11 : UInt32).toNat) ∈ cz_SR := List.mem_of_getElem? (i := 33) (by decide +kernel)
theorem ld12_170 : (cz_on 12, 170, "lamp", (17 : UInt32).toNat) ∈ cz_SR := List.mem_of_getElem? (i := 34) (by decide +kernel)
theorem ld12_172 : (cz_on 12, 172, "shutter", (22 : UInt32).toNat) ∈ cz_SR := List.mem_of_getElem? (i := 35) (by decide +kernel)
theorem ld12_174 : (cz_on 12, 174, "bolt", (4 : UInt32).toNat) ∈ cz_SR := List.mem_of_getElem? (i := 36) (by decide +kernel)
theorem ld12_176 : (cz_on 12, 176, "cheese", (6 : UInt32).toNat) ∈ cz_SR := List.mem_of_getElem? (i := 37) (by decide +kernel)
theorem ld12_178 : (cz_on 12, 178, "almanac", (0 : UInt32).toNat) ∈ cz_SR := List.mem_of_getElem? (i := 38) (by decide +kernel)
theorem ld12_180 : (cz_on 12, 180, "turner", (26 : UInt32).toNat) ∈ cz_SR := List.mem_of_getElem? (i := 39) (by decide +kernel)
theorem ld12_182 : (cz_on 12, 182, "call", (5 : UInt32).toNat) ∈ cz_SR := List.mem_of_getElem? (i := 40) (by decide +kernel)
theorem ld12_184 : (cz_on 12, 184, "slice", (23 : UInt32).toNat) ∈ cz_SR := List.mem_of_getElem? (i := 41) (by decide +kernel)
theorem ld12_186 : (cz_on 12, 186, "down", (10 : UInt32).toNat) ∈ cz_SR := List.mem_of_getElem? (i := 42) (by decide +kernel)
theorem fl12_188 : cz_fl 12 188 = some (12, 4, 1, false) := by decide +kernel
theorem fl12_192 : cz_fl 12 192 = some (11, 0, 0, true) := by decide +kernel
theorem lk12_197 : Cond.methodLink (cz_on 12) 197 (cz_nm mX12_isName) ∈ cz_T := cz_in (i := 1703) (by decide +kernel) rfl
theorem lk12_201 : Cond.methodLink (cz_on 12) 201 (cz_nm mX11_find) ∈ cz_T := cz_in (i := 1712) (by decide +kernel) rfl
theorem fl12_205 : cz_fl 12 205 = some (11, 30, 1, true) := by decide +kernel
theorem fl12_209 : cz_fl 12 209 = some (11, 7, 0, true) := by decide +kernel
theorem fl12_212 : cz_fl 12 212 = some (11, 31, 1, true) := by decide +kernel
theorem fl12_215 : cz_fl 12 215 = some (11, 32, 1, true) := by decide +kernel
theorem lk12_218 : Cond.methodLink (cz_on 12) 218 (cz_nm mX12_readLine) ∈ cz_T := cz_in (i := 1632) (by decide +kernel) rfl
theorem lk12_221 : Cond.methodLink (cz_on 12) 221 (cz_nm mX12_eatsSign) ∈ cz_T := cz_in (i := 1733) (by decide +kernel) rfl
theorem fl12_224 : cz_fl 12 224 = some (11, 3, 0, true) := by decide +kernel
theorem lk12_227 : Cond.methodLink (cz_on 12) 227 (cz_nm mX12_readAlp) ∈ cz_T := cz_in (i := 1646) (by decide +kernel) rfl
theorem lk12_230 : Cond.methodLink (cz_on 12) 230 (cz_nm mX12_readEvent) ∈ cz_T := cz_in (i := 1681) (by decide +kernel) rfl
theorem lk12_233 : Cond.methodLink (cz_on 12) 233 (cz_nm mX12_readCheese) ∈ cz_T := cz_in (i := 1695) (by decide +kernel) rfl
theorem lk12_236 : Cond.methodLink (cz_on 12) 236 (cz_nm mX12_readAlmanac) ∈ cz_T := cz_in (i := 1725) (by decide +kernel) rfl
theorem lk12_239 : Cond.methodLink (cz_on 12) 239 (cz_nm mX12_readTurner) ∈ cz_T := cz_in (i := 1737) (by decide +kernel) rfl
theorem lk12_242 : Cond.methodLink (cz_on 12) 242 (cz_nm mX12_readCall) ∈ cz_T := cz_in (i := 1750) (by decide +kernel) rfl
theorem lk12_245 : Cond.methodLink (cz_on 12) 245 (cz_nm mX12_readSlice) ∈ cz_T := cz_in (i := 1757) (by decide +kernel) rfl
theorem ld12_248 : (cz_on 12, 248, "minutes", (18 : UInt32).toNat) ∈ cz_SR := List.mem_of_getElem? (i := 28) (by decide +kernel)
theorem lk12_249 : Cond.methodLink (cz_on 12) 249 (cz_nm mX12_readPart) ∈ cz_T := cz_in (i := 1655) (by decide +kernel) rfl
theorem ld12_253 : (cz_on 12, 253, "huts", (16 : UInt32).toNat) ∈ cz_SR := List.mem_of_getElem? (i := 29) (by decide +kernel)
theorem ld12_255 : (cz_on 12, 255, "prices", (20 : UInt32).toNat) ∈ cz_SR := List.mem_of_getElem? (i := 30) (by decide +kernel)
theorem lk12_257 : Cond.methodLink (cz_on 12) 257 (cz_nm mX12_needsSign) ∈ cz_T := cz_in (i := 1676) (by decide +kernel) rfl
theorem fl12_260 : cz_fl 12 260 = some (11, 10, 1, true) := by decide +kernel
theorem fl12_263 : cz_fl 12 263 = some (11, 1, 0, true) := by decide +kernel
theorem fl12_265 : cz_fl 12 265 = some (11, 2, 0, true) := by decide +kernel
theorem lk12_268 : Cond.methodLink (cz_on 12) 268 (cz_nm mX12_begins) ∈ cz_T := cz_in (i := 1685) (by decide +kernel) rfl
theorem ld12_272 : (cz_on 12, 272, "to", (25 : UInt32).toNat) ∈ cz_SR := List.mem_of_getElem? (i := 32) (by decide +kernel)
theorem fl12_274 : cz_fl 12 274 = some (11, 11, 1, true) := by decide +kernel
theorem fl12_277 : cz_fl 12 277 = some (11, 12, 1, true) := by decide +kernel
theorem fl12_280 : cz_fl 12 280 = some (11, 13, 1, true) := by decide +kernel
theorem fl12_283 : cz_fl 12 283 = some (11, 14, 1, true) := by decide +kernel
theorem lk12_285 : Cond.methodLink (cz_on 12) 285 (cz_nm mX12_readFresh) ∈ cz_T := cz_in (i := 1699) (by decide +kernel) rfl
theorem ld12_289 : (cz_on 12, 289, "hut", (15 : UInt32).toNat) ∈ cz_SR := List.mem_of_getElem? (i := 43) (by decide +kernel)
theorem lk12_290 : Cond.methodLink (cz_on 12) 290 (cz_nm mX12_eatsWord) ∈ cz_T := cz_in (i := 1717) (by decide +kernel) rfl
theorem lk12_293 : Cond.methodLink (cz_on 12) 293 (cz_nm mX12_names) ∈ cz_T := cz_in (i := 1721) (by decide +kernel) rfl
theorem fl12_296 : cz_fl 12 296 = some (11, 15, 1, true) := by decide +kernel
theorem fl12_299 : cz_fl 12 299 = some (11, 19, 1, true) := by decide +kernel
theorem fl12_302 : cz_fl 12 302 = some (11, 9, 3, true) := by decide +kernel
theorem fl12_306 : cz_fl 12 306 = some (11, 16, 1, true) := by decide +kernel
theorem lk12_308 : Cond.methodLink (cz_on 12) 308 (cz_nm mX12_readRising) ∈ cz_T := cz_in (i := 1729) (by decide +kernel) rfl
theorem fl12_312 : cz_fl 12 312 = some (11, 8, 0, true) := by decide +kernel
theorem fl12_315 : cz_fl 12 315 = some (11, 4, 0, true) := by decide +kernel
theorem ld12_318 : (cz_on 12, 318, "sees", (21 : UInt32).toNat) ∈ cz_SR := List.mem_of_getElem? (i := 44) (by decide +kernel)
theorem ld12_320 : (cz_on 12, 320, "blind", (3 : UInt32).toNat) ∈ cz_SR := List.mem_of_getElem? (i := 45) (by decide +kernel)
theorem ld12_322 : (cz_on 12, 322, "deaf", (9 : UInt32).toNat) ∈ cz_SR := List.mem_of_getElem? (i := 46) (by decide +kernel)
theorem ld12_324 : (cz_on 12, 324, "from", (13 : UInt32).toNat) ∈ cz_SR := List.mem_of_getElem? (i := 47) (by decide +kernel)
theorem ld12_325 : (cz_on 12, 325, "hands", (14 : UInt32).toNat) ∈ cz_SR := List.mem_of_getElem? (i := 48) (by decide +kernel)
theorem ld12_327 : (cz_on 12, 327, "takes", (24 : UInt32).toNat) ∈ cz_SR := List.mem_of_getElem? (i := 49) (by decide +kernel)
theorem lk12_329 : Cond.methodLink (cz_on 12) 329 (cz_nm mX12_has) ∈ cz_T := cz_in (i := 1747) (by decide +kernel) rfl
theorem fl12_333 : cz_fl 12 333 = some (11, 20, 1, true) := by decide +kernel
theorem fl12_336 : cz_fl 12 336 = some (11, 21, 1, true) := by decide +kernel
theorem fl12_339 : cz_fl 12 339 = some (11, 22, 1, true) := by decide +kernel
theorem fl12_342 : cz_fl 12 342 = some (11, 23, 1, true) := by decide +kernel
theorem fl12_344 : cz_fl 12 344 = some (11, 24, 1, true) := by decide +kernel
theorem fl12_346 : cz_fl 12 346 = some (11, 25, 1, true) := by decide +kernel
theorem fl12_349 : cz_fl 12 349 = some (11, 5, 0, true) := by decide +kernel
theorem ld12_352 : (cz_on 12, 352, "at", (2 : UInt32).toNat) ∈ cz_SR := List.mem_of_getElem? (i := 50) (by decide +kernel)
theorem ld12_354 : (cz_on 12, 354, "for", (12 : UInt32).toNat) ∈ cz_SR := List.mem_of_getElem? (i := 51) (by decide +kernel)
theorem ld12_356 : (cz_on 12, 356, "costs", (8 : UInt32).toNat) ∈ cz_SR := List.mem_of_getElem? (i := 52) (by decide +kernel)
theorem fl12_358 : cz_fl 12 358 = some (11, 26, 1, true) := by decide +kernel
theorem fl12_361 : cz_fl 12 361 = some (11, 27, 1, true) := by decide +kernel
theorem fl12_364 : cz_fl 12 364 = some (11, 28, 1, true) := by decide +kernel
theorem fl12_367 : cz_fl 12 367 = some (11, 29, 1, true) := by decide +kernel
theorem fl12_370 : cz_fl 12 370 = some (11, 6, 0, true) := by decide +kernel
theorem fl12_373 : cz_fl 12 373 = some (11, 18, 1, true) := by decide +kernel
theorem fl12_375 : cz_fl 12 375 = some (11, 17, 1, true) := by decide +kernel
theorem fl12_378 : cz_fl 12 378 = some (12, 6, 0, false) := by decide +kernel
theorem lc12_193 : Cond.classLink (cz_on 12) 193 (cz_on 11) ∈ cz_T := cz_in (i := 1483) (by decide +kernel) rfl
theorem lk12_381 : (cz_on 12, 381, cz_nm mX11_init, "EclipseCheeseModel") ∈ cz_NM := List.mem_of_getElem? (i := 10) (by decide +kernel)
theorem lk12_382 : Cond.methodLink (cz_on 12) 382 (cz_nm mX12_readAll) ∈ cz_T := cz_in (i := 1628) (by decide +kernel) rfl
theorem fl12_385 : cz_fl 12 385 = some (12, 3, 1, false) := by decide +kernel
theorem fl12_387 : cz_fl 12 387 = some (12, 19, 0, false) := by decide +kernel
theorem fl12_390 : cz_fl 12 390 = some (12, 20, 0, false) := by decide +kernel
theorem lk12_393 : Cond.methodLink (cz_on 12) 393 (cz_nm mX12_events) ∈ cz_T := cz_in (i := 1785) (by decide +kernel) rfl
theorem lk12_395 : Cond.methodLink (cz_on 12) 395 (cz_nm mX12_fromOf) ∈ cz_T := cz_in (i := 1789) (by decide +kernel) rfl
theorem lk12_398 : Cond.methodLink (cz_on 12) 398 (cz_nm mX12_toOf) ∈ cz_T := cz_in (i := 1793) (by decide +kernel) rfl
theorem lk12_401 : Cond.methodLink (cz_on 12) 401 (cz_nm mX12_marksLight) ∈ cz_T := cz_in (i := 1797) (by decide +kernel) rfl
theorem lk12_404 : Cond.methodLink (cz_on 12) 404 (cz_nm mX12_kindOf) ∈ cz_T := cz_in (i := 1801) (by decide +kernel) rfl
theorem lk12_407 : Cond.methodLink (cz_on 12) 407 (cz_nm mX12_hutOf) ∈ cz_T := cz_in (i := 1805) (by decide +kernel) rfl
theorem lk12_410 : Cond.methodLink (cz_on 12) 410 (cz_nm mX12_isInAlmanac) ∈ cz_T := cz_in (i := 1865) (by decide +kernel) rfl
theorem lk12_413 : Cond.methodLink (cz_on 12) 413 (cz_nm mX12_changesIn) ∈ cz_T := cz_in (i := 1825) (by decide +kernel) rfl
theorem lk12_416 : Cond.methodLink (cz_on 12) 416 (cz_nm mX12_seemsToIn) ∈ cz_T := cz_in (i := 1821) (by decide +kernel) rfl
theorem lk12_419 : Cond.methodLink (cz_on 12) 419 (cz_nm mX12_isAwake) ∈ cz_T := cz_in (i := 1853) (by decide +kernel) rfl
theorem lk12_422 : Cond.methodLink (cz_on 12) 422 (cz_nm mX12_turns) ∈ cz_T := cz_in (i := 1885) (by decide +kernel) rfl
theorem lk12_425 : Cond.methodLink (cz_on 12) 425 (cz_nm mX12_notes) ∈ cz_T := cz_in (i := 1889) (by decide +kernel) rfl
theorem lk12_428 : Cond.methodLink (cz_on 12) 428 (cz_nm mX12_priceOf) ∈ cz_T := cz_in (i := 1893) (by decide +kernel) rfl
theorem lk12_431 : Cond.methodLink (cz_on 12) 431 (cz_nm mX12_noticesIn) ∈ cz_T := cz_in (i := 1861) (by decide +kernel) rfl
theorem lk12_434 : Cond.methodLink (cz_on 12) 434 (cz_nm mX12_laysLight) ∈ cz_T := cz_in (i := 1781) (by decide +kernel) rfl
theorem lk12_437 : Cond.methodLink (cz_on 12) 437 (cz_nm mX12_everybody) ∈ cz_T := cz_in (i := 1877) (by decide +kernel) rfl
theorem lk12_440 : Cond.methodLink (cz_on 12) 440 (cz_nm mX12_goes) ∈ cz_T := cz_in (i := 1881) (by decide +kernel) rfl
theorem lk12_443 : Cond.methodLink (cz_on 12) 443 (cz_nm mX12_isMinute) ∈ cz_T := cz_in (i := 1777) (by decide +kernel) rfl
theorem lk12_446 : Cond.methodLink (cz_on 12) 446 (cz_nm mX12_isHut) ∈ cz_T := cz_in (i := 1813) (by decide +kernel) rfl
theorem lk12_449 : Cond.methodLink (cz_on 12) 449 (cz_nm mX12_dueIn) ∈ cz_T := cz_in (i := 1837) (by decide +kernel) rfl
theorem lk12_452 : Cond.methodLink (cz_on 12) 452 (cz_nm mX12_isTurner) ∈ cz_T := cz_in (i := 1849) (by decide +kernel) rfl
theorem lk12_455 : Cond.methodLink (cz_on 12) 455 (cz_nm mX12_tonight) ∈ cz_T := cz_in (i := 1873) (by decide +kernel) rfl
theorem lk12_458 : Cond.methodLink (cz_on 12) 458 (cz_nm mX12_lost) ∈ cz_T := cz_in (i := 1901) (by decide +kernel) rfl
theorem lk12_461 : Cond.methodLink (cz_on 12) 461 (cz_nm mX12_isCheese) ∈ cz_T := cz_in (i := 1910) (by decide +kernel) rfl
theorem lk12_464 : Cond.methodLink (cz_on 12) 464 (cz_nm mX12_veinAt) ∈ cz_T := cz_in (i := 1926) (by decide +kernel) rfl
theorem lk12_467 : Cond.methodLink (cz_on 12) 467 (cz_nm mX12_isEvent) ∈ cz_T := cz_in (i := 1942) (by decide +kernel) rfl
theorem fl12_470 : cz_fl 12 470 = some (12, 34, 0, false) := by decide +kernel
theorem lk12_473 : Cond.methodLink (cz_on 12) 473 (cz_nm mX12_bits) ∈ cz_T := cz_in (i := 1954) (by decide +kernel) rfl
theorem lk12_476 : Cond.methodLink (cz_on 12) 476 (cz_nm mX12_wakeNow) ∈ cz_T := cz_in (i := 1950) (by decide +kernel) rfl
theorem lk12_479 : Cond.methodLink (cz_on 12) 479 (cz_nm mX12_missesNone) ∈ cz_T := cz_in (i := 1969) (by decide +kernel) rfl
theorem lk12_482 : Cond.methodLink (cz_on 12) 482 (cz_nm mX12_fewestNow) ∈ cz_T := cz_in (i := 1965) (by decide +kernel) rfl
theorem lk12_485 : Cond.methodLink (cz_on 12) 485 (cz_nm mX12_isSlice) ∈ cz_T := cz_in (i := 1981) (by decide +kernel) rfl
theorem lk12_488 : Cond.methodLink (cz_on 12) 488 (cz_nm mX12_fitsNow) ∈ cz_T := cz_in (i := 1985) (by decide +kernel) rfl
theorem ld12_491 : Cond.constantLong (cz_on 12) 491 (75) ∈ cz_T := cz_in (i := 2006) (by decide +kernel) rfl
theorem ld12_493 : Cond.constantLong (cz_on 12) 493 (74) ∈ cz_T := cz_in (i := 2007) (by decide +kernel) rfl
theorem ld12_495 : Cond.constantLong (cz_on 12) 495 (65537) ∈ cz_T := cz_in (i := 2008) (by decide +kernel) rfl
theorem lk12_497 : Cond.methodLink (cz_on 12) 497 (cz_nm mX12_drawOf) ∈ cz_T := cz_in (i := 2002) (by decide +kernel) rfl
theorem lk12_500 : Cond.methodLink (cz_on 12) 500 (cz_nm mX12_comes) ∈ cz_T := cz_in (i := 2009) (by decide +kernel) rfl
theorem ld12_503 : Cond.constant (cz_on 12) 503 (65536) ∈ cz_T := cz_in (i := 1997) (by decide +kernel) rfl
theorem lk12_504 : Cond.methodLink (cz_on 12) 504 (cz_nm mX12_draws) ∈ cz_T := cz_in (i := 1998) (by decide +kernel) rfl
theorem lk12_507 : Cond.methodLink (cz_on 12) 507 (cz_nm mX12_denied) ∈ cz_T := cz_in (i := 2017) (by decide +kernel) rfl
theorem lk12_510 : Cond.methodLink (cz_on 12) 510 (cz_nm mX12_keeps) ∈ cz_T := cz_in (i := 2021) (by decide +kernel) rfl
theorem lk12_513 : Cond.methodLink (cz_on 12) 513 (cz_nm mX12_granted) ∈ cz_T := cz_in (i := 2025) (by decide +kernel) rfl
theorem ld14_265 : Cond.constant (cz_on 14) 265 (1431655765) ∈ cz_T := cz_in (i := 1131) (by decide +kernel) rfl
theorem ld14_266 : Cond.constant (cz_on 14) 266 (858993459) ∈ cz_T := cz_in (i := 1132) (by decide +kernel) rfl
theorem ld14_267 : Cond.constant (cz_on 14) 267 (252645135) ∈ cz_T := cz_in (i := 1133) (by decide +kernel) rfl
theorem lk13_7 : Cond.methodLink (cz_on 13) 7 (cz_nm mX10_led) ∈ cz_T := cz_in (i := 1283) (by decide +kernel) rfl
theorem lc13_8 : Cond.classLink (cz_on 13) 8 (cz_on 10) ∈ cz_T := cz_in (i := 154) (by decide +kernel) rfl
theorem lk13_15 : Cond.methodLink (cz_on 13) 15 (cz_nm mX10_init) ∈ cz_T := cz_in (i := 156) (by decide +kernel) rfl
theorem lc13_16 : Cond.classLink (cz_on 13) 16 (cz_on 12) ∈ cz_T := cz_in (i := 1352) (by decide +kernel) rfl
theorem lk13_18 : Cond.methodLink (cz_on 13) 18 (cz_nm mX12_init) ∈ cz_T := cz_in (i := 1354) (by decide +kernel) rfl
theorem lk13_19 : Cond.methodLink (cz_on 13) 19 (cz_nm mX10_feed) ∈ cz_T := cz_in (i := 635) (by decide +kernel) rfl
theorem lk13_23 : Cond.methodLink (cz_on 13) 23 (cz_nm mX12_feed) ∈ cz_T := cz_in (i := 1471) (by decide +kernel) rfl
theorem lk13_24 : Cond.methodLink (cz_on 13) 24 (cz_nm mX10_alp) ∈ cz_T := cz_in (i := 643) (by decide +kernel) rfl
theorem lk13_27 : Cond.methodLink (cz_on 13) 27 (cz_nm mX12_alp) ∈ cz_T := cz_in (i := 1475) (by decide +kernel) rfl
theorem lk13_28 : Cond.methodLink (cz_on 13) 28 (cz_nm mX10_fault) ∈ cz_T := cz_in (i := 868) (by decide +kernel) rfl
theorem lk13_32 : Cond.methodLink (cz_on 13) 32 (cz_nm mX12_fault) ∈ cz_T := cz_in (i := 1765) (by decide +kernel) rfl
theorem lk13_33 : Cond.methodLink (cz_on 13) 33 (cz_nm mX10_where) ∈ cz_T := cz_in (i := 872) (by decide +kernel) rfl
theorem lk13_36 : Cond.methodLink (cz_on 13) 36 (cz_nm mX12_where) ∈ cz_T := cz_in (i := 1769) (by decide +kernel) rfl
theorem lk13_37 : Cond.methodLink (cz_on 13) 37 (cz_nm mX10_sky) ∈ cz_T := cz_in (i := 876) (by decide +kernel) rfl
theorem lk13_40 : Cond.methodLink (cz_on 13) 40 (cz_nm mX12_sky) ∈ cz_T := cz_in (i := 1773) (by decide +kernel) rfl
theorem lk13_41 : Cond.methodLink (cz_on 13) 41 (cz_nm mX10_light) ∈ cz_T := cz_in (i := 921) (by decide +kernel) rfl
theorem lk13_45 : Cond.methodLink (cz_on 13) 45 (cz_nm mX12_light) ∈ cz_T := cz_in (i := 1809) (by decide +kernel) rfl
theorem lk13_46 : Cond.methodLink (cz_on 13) 46 (cz_nm mX10_changes) ∈ cz_T := cz_in (i := 930) (by decide +kernel) rfl
theorem lk13_50 : Cond.methodLink (cz_on 13) 50 (cz_nm mX12_changes) ∈ cz_T := cz_in (i := 1817) (by decide +kernel) rfl
theorem lk13_51 : Cond.methodLink (cz_on 13) 51 (cz_nm mX10_change) ∈ cz_T := cz_in (i := 934) (by decide +kernel) rfl
theorem lk13_55 : Cond.methodLink (cz_on 13) 55 (cz_nm mX12_change) ∈ cz_T := cz_in (i := 1829) (by decide +kernel) rfl
theorem lk13_56 : Cond.methodLink (cz_on 13) 56 (cz_nm mX10_peak) ∈ cz_T := cz_in (i := 938) (by decide +kernel) rfl
theorem lk13_59 : Cond.methodLink (cz_on 13) 59 (cz_nm mX12_peak) ∈ cz_T := cz_in (i := 1833) (by decide +kernel) rfl
theorem lk13_60 : Cond.methodLink (cz_on 13) 60 (cz_nm mX10_due) ∈ cz_T := cz_in (i := 947) (by decide +kernel) rfl
theorem lk13_63 : Cond.methodLink (cz_on 13) 63 (cz_nm mX12_due) ∈ cz_T := cz_in (i := 1841) (by decide +kernel) rfl
theorem lk13_64 : Cond.methodLink (cz_on 13) 64 (cz_nm mX10_awake) ∈ cz_T := cz_in (i := 951) (by decide +kernel) rfl
theorem lk13_67 : Cond.methodLink (cz_on 13) 67 (cz_nm mX12_awake) ∈ cz_T := cz_in (i := 1845) (by decide +kernel) rfl
theorem lk13_68 : Cond.methodLink (cz_on 13) 68 (cz_nm mX10_notices) ∈ cz_T := cz_in (i := 1009) (by decide +kernel) rfl
theorem lk13_72 : Cond.methodLink (cz_on 13) 72 (cz_nm mX12_notices) ∈ cz_T := cz_in (i := 1857) (by decide +kernel) rfl
theorem lk13_73 : Cond.methodLink (cz_on 13) 73 (cz_nm mX10_work) ∈ cz_T := cz_in (i := 1014) (by decide +kernel) rfl
theorem lk13_76 : Cond.methodLink (cz_on 13) 76 (cz_nm mX12_work) ∈ cz_T := cz_in (i := 1869) (by decide +kernel) rfl
theorem lk13_77 : Cond.methodLink (cz_on 13) 77 (cz_nm mX10_worth) ∈ cz_T := cz_in (i := 1022) (by decide +kernel) rfl
theorem lk13_80 : Cond.methodLink (cz_on 13) 80 (cz_nm mX12_worth) ∈ cz_T := cz_in (i := 1897) (by decide +kernel) rfl
theorem lk13_81 : Cond.methodLink (cz_on 13) 81 (cz_nm mX10_turned) ∈ cz_T := cz_in (i := 1046) (by decide +kernel) rfl
theorem lk13_84 : Cond.methodLink (cz_on 13) 84 (cz_nm mX12_turned) ∈ cz_T := cz_in (i := 1906) (by decide +kernel) rfl
theorem lk13_85 : Cond.methodLink (cz_on 13) 85 (cz_nm mX10_up) ∈ cz_T := cz_in (i := 1058) (by decide +kernel) rfl
theorem lk13_88 : Cond.methodLink (cz_on 13) 88 (cz_nm mX12_up) ∈ cz_T := cz_in (i := 1914) (by decide +kernel) rfl
theorem lk13_89 : Cond.methodLink (cz_on 13) 89 (cz_nm mX10_cheese) ∈ cz_T := cz_in (i := 1071) (by decide +kernel) rfl
theorem lk13_92 : Cond.methodLink (cz_on 13) 92 (cz_nm mX12_cheese) ∈ cz_T := cz_in (i := 1918) (by decide +kernel) rfl
theorem lk13_93 : Cond.methodLink (cz_on 13) 93 (cz_nm mX10_vein) ∈ cz_T := cz_in (i := 1076) (by decide +kernel) rfl
theorem lk13_96 : Cond.methodLink (cz_on 13) 96 (cz_nm mX12_vein) ∈ cz_T := cz_in (i := 1922) (by decide +kernel) rfl
theorem lk13_97 : Cond.methodLink (cz_on 13) 97 (cz_nm mX10_cause) ∈ cz_T := cz_in (i := 1088) (by decide +kernel) rfl
theorem lk13_100 : Cond.methodLink (cz_on 13) 100 (cz_nm mX12_cause) ∈ cz_T := cz_in (i := 1930) (by decide +kernel) rfl
theorem lk13_101 : Cond.methodLink (cz_on 13) 101 (cz_nm mX10_total) ∈ cz_T := cz_in (i := 1104) (by decide +kernel) rfl
theorem lk13_104 : Cond.methodLink (cz_on 13) 104 (cz_nm mX12_total) ∈ cz_T := cz_in (i := 1934) (by decide +kernel) rfl
theorem lk13_105 : Cond.methodLink (cz_on 13) 105 (cz_nm mX10_without) ∈ cz_T := cz_in (i := 1108) (by decide +kernel) rfl
theorem lk13_108 : Cond.methodLink (cz_on 13) 108 (cz_nm mX12_without) ∈ cz_T := cz_in (i := 1938) (by decide +kernel) rfl
theorem lk13_109 : Cond.methodLink (cz_on 13) 109 (cz_nm mX10_wake) ∈ cz_T := cz_in (i := 1116) (by decide +kernel) rfl
theorem lk13_112 : Cond.methodLink (cz_on 13) 112 (cz_nm mX12_wake) ∈ cz_T := cz_in (i := 1946) (by decide +kernel) rfl
theorem lk13_113 : Cond.methodLink (cz_on 13) 113 (cz_nm mX10_wakeTotal) ∈ cz_T := cz_in (i := 1134) (by decide +kernel) rfl
theorem lk13_116 : Cond.methodLink (cz_on 13) 116 (cz_nm mX12_wakeTotal) ∈ cz_T := cz_in (i := 1957) (by decide +kernel) rfl
theorem lk13_117 : Cond.methodLink (cz_on 13) 117 (cz_nm mX10_fewest) ∈ cz_T := cz_in (i := 1138) (by decide +kernel) rfl
theorem lk13_120 : Cond.methodLink (cz_on 13) 120 (cz_nm mX12_fewest) ∈ cz_T := cz_in (i := 1961) (by decide +kernel) rfl
theorem lk13_121 : Cond.methodLink (cz_on 13) 121 (cz_nm mX10_fewestBy) ∈ cz_T := cz_in (i := 1150) (by decide +kernel) rfl
theorem lk13_124 : Cond.methodLink (cz_on 13) 124 (cz_nm mX12_fewestBy) ∈ cz_T := cz_in (i := 1973) (by decide +kernel) rfl
theorem lk13_125 : Cond.methodLink (cz_on 13) 125 (cz_nm mX10_fits) ∈ cz_T := cz_in (i := 1154) (by decide +kernel) rfl
theorem lk13_128 : Cond.methodLink (cz_on 13) 128 (cz_nm mX12_fits) ∈ cz_T := cz_in (i := 1977) (by decide +kernel) rfl
theorem lk13_129 : Cond.methodLink (cz_on 13) 129 (cz_nm mX10_by) ∈ cz_T := cz_in (i := 1170) (by decide +kernel) rfl
theorem lk13_132 : Cond.methodLink (cz_on 13) 132 (cz_nm mX12_by) ∈ cz_T := cz_in (i := 1989) (by decide +kernel) rfl
theorem lk13_133 : Cond.methodLink (cz_on 13) 133 (cz_nm mX10_nights) ∈ cz_T := cz_in (i := 1174) (by decide +kernel) rfl
theorem lk13_136 : Cond.methodLink (cz_on 13) 136 (cz_nm mX12_nights) ∈ cz_T := cz_in (i := 1993) (by decide +kernel) rfl
theorem lk13_137 : Cond.methodLink (cz_on 13) 137 (cz_nm mX10_call) ∈ cz_T := cz_in (i := 1198) (by decide +kernel) rfl
theorem lk13_141 : Cond.methodLink (cz_on 13) 141 (cz_nm mX12_call) ∈ cz_T := cz_in (i := 2013) (by decide +kernel) rfl
theorem lk13_142 : Cond.methodLink (cz_on 13) 142 (cz_nm mX10_calls) ∈ cz_T := cz_in (i := 1222) (by decide +kernel) rfl
theorem lk13_145 : Cond.methodLink (cz_on 13) 145 (cz_nm mX12_calls) ∈ cz_T := cz_in (i := 2029) (by decide +kernel) rfl
theorem lk13_146 : Cond.methodLink (cz_on 13) 146 (cz_nm mX10_cloud) ∈ cz_T := cz_in (i := 1226) (by decide +kernel) rfl
theorem lk13_150 : Cond.methodLink (cz_on 13) 150 (cz_nm mX12_cloud) ∈ cz_T := cz_in (i := 2033) (by decide +kernel) rfl
theorem lk13_151 : Cond.methodLink (cz_on 13) 151 (cz_nm mX10_draw) ∈ cz_T := cz_in (i := 1231) (by decide +kernel) rfl
theorem lk13_154 : Cond.methodLink (cz_on 13) 154 (cz_nm mX12_draw) ∈ cz_T := cz_in (i := 2037) (by decide +kernel) rfl
theorem lk13_155 : Cond.methodLink (cz_on 13) 155 (cz_nm mX10_lift) ∈ cz_T := cz_in (i := 1235) (by decide +kernel) rfl
theorem lk13_159 : Cond.methodLink (cz_on 13) 159 (cz_nm mX12_lift) ∈ cz_T := cz_in (i := 2041) (by decide +kernel) rfl
theorem lk13_160 : Cond.methodLink (cz_on 13) 160 (cz_nm mX10_seed) ∈ cz_T := cz_in (i := 1239) (by decide +kernel) rfl
theorem lk13_164 : Cond.methodLink (cz_on 13) 164 (cz_nm mX12_seed) ∈ cz_T := cz_in (i := 2045) (by decide +kernel) rfl
theorem lk13_165 : Cond.methodLink (cz_on 13) 165 (cz_nm mX10_undo) ∈ cz_T := cz_in (i := 1243) (by decide +kernel) rfl
theorem lk13_168 : Cond.methodLink (cz_on 13) 168 (cz_nm mX12_undo) ∈ cz_T := cz_in (i := 2049) (by decide +kernel) rfl
theorem lk13_169 : Cond.methodLink (cz_on 13) 169 (cz_nm mX10_mark) ∈ cz_T := cz_in (i := 1251) (by decide +kernel) rfl
theorem lk13_172 : Cond.methodLink (cz_on 13) 172 (cz_nm mX12_mark) ∈ cz_T := cz_in (i := 2053) (by decide +kernel) rfl
theorem lk13_173 : Cond.methodLink (cz_on 13) 173 (cz_nm mX10_back) ∈ cz_T := cz_in (i := 1259) (by decide +kernel) rfl
theorem lk13_176 : Cond.methodLink (cz_on 13) 176 (cz_nm mX12_back) ∈ cz_T := cz_in (i := 2057) (by decide +kernel) rfl
theorem lk13_177 : Cond.methodLink (cz_on 13) 177 (cz_nm mX10_event) ∈ cz_T := cz_in (i := 1267) (by decide +kernel) rfl
theorem lk13_180 : Cond.methodLink (cz_on 13) 180 (cz_nm mX12_event) ∈ cz_T := cz_in (i := 2061) (by decide +kernel) rfl
theorem lk13_186 : Cond.methodLink (cz_on 13) 186 (cz_nm mX12_led) ∈ cz_T := cz_in (i := 2065) (by decide +kernel) rfl
theorem lk13_187 : Cond.methodLink (cz_on 13) 187 (cz_nm mX12_thrown) ∈ cz_T := cz_in (i := 1467) (by decide +kernel) rfl
theorem lk13_190 : Cond.methodLink (cz_on 13) 190 (cz_nm mX10_size) ∈ cz_T := cz_in (i := 1271) (by decide +kernel) rfl
theorem lk13_193 : Cond.methodLink (cz_on 13) 193 (cz_nm mX12_size) ∈ cz_T := cz_in (i := 2069) (by decide +kernel) rfl
theorem lk13_194 : Cond.methodLink (cz_on 13) 194 (cz_nm mX10_trouble) ∈ cz_T := cz_in (i := 1275) (by decide +kernel) rfl
theorem lk13_197 : Cond.methodLink (cz_on 13) 197 (cz_nm mX12_trouble) ∈ cz_T := cz_in (i := 2073) (by decide +kernel) rfl
end
section
/-! ===== what is new is blank ===== -/
def cz_Fr (cn : Nat) (I : cz_I) (R : cz_R) (L : cz_L) : Prop := ∀ k : Nat, cn ≤ k → I k = (fun _ => 0) ∧ R k = (fun _ => none) ∧ L k = (fun _ => 0)
theorem cz_upself {α : Type} {f : Nat → α} {k : Nat} {v : α} (h : f k = v) : va_up f k v = f := by
  funext a
  by_cases ha : a = k
  · subst ha; simp [va_up, h]
  · simp [va_up, ha]
theorem cz_Fr.more {cn : Nat} {I : cz_I} {R : cz_R} {L : cz_L} (h : cz_Fr cn I R L) : cz_Fr (cn + 1) I R L := fun k hk => h k (by omega)
theorem cz_Fr.uI {cn k j : Nat} {x : Int32} {I : cz_I} {R : cz_R} {L : cz_L} (h : cz_Fr cn I R L) (hk : k < cn) : cz_Fr cn (cz_uI I k j x) R L := fun a ha => by rw [cz_uIn (by omega)]; exact h a ha
theorem cz_Fr.uR {cn k j : Nat} {x : Option Nat} {I : cz_I} {R : cz_R} {L : cz_L} (h : cz_Fr cn I R L) (hk : k < cn) : cz_Fr cn I (cz_uR R k j x) L := fun a ha => by rw [cz_uRn (by omega)]; exact h a ha
section CzNewF
variable {X : cz_X} {M : cz_M} {pc : Nat} {ls : Nat → Option Value} {st : List Value} {cn : Nat} {K N : Nat → Nat} {I : cz_I} {R : cz_R} {L : cz_L} {n w : Nat}
theorem tr_newF {idx ci : Nat} (hF : cz_Fr cn I R L) (hd : decode (cz_cc M) pc = .ok (.new idx, 3)) (hci : ci < 13) (hl1 : Cond.classLink (cz_on M.1) idx (cz_on ci) ∈ cz_T) (hl2 : Cond.instantiable (cz_on ci) (cz_nf ci) ∈ cz_T) (hl3 : Cond.initialized (cz_on ci) ∈ cz_T) (hn : n + 1 ≤ (cz_rm M).cells) (hw : w + cz_nf ci ≤ (cz_rm M).slots)
    (kk : Tr X M (pc + 3) ls (.ref cn :: st) (cn + 1) (va_up K cn ci) (va_up N cn 0) I R L (n + 1) (w + cz_nf ci)) : Tr X M pc ls st cn K N I R L n w := by
  obtain ⟨h1, h2, h3⟩ := hF cn (Nat.le_refl _)
  refine tr_new hd hci hl1 hl2 hl3 hn hw ?_
  rw [cz_upself h1, cz_upself h2, cz_upself h3]
  exact kk
theorem tr_newaF {ty : ArrayType} {x : Int32} {len : Nat} (hF : cz_Fr cn I R L) (hd : decode (cz_cc M) pc = .ok (.newarray ty, 2)) (hty : cz_at ty < 99) (hl1 : Cond.arrayClass (newarray.typeOf ty) ∈ cz_T) (hx0 : ¬ x < 0) (hlen : x.toNatClampNeg = len) (hsm : len ≤ 4096) (hn : n + 1 ≤ (cz_rm M).cells) (hw : w + len ≤ (cz_rm M).slots)
    (kk : Tr X M (pc + 2) ls (.ref cn :: st) (cn + 1) (va_up K cn (cz_at ty)) (va_up N cn len) I R L (n + 1) (w + len)) : Tr X M pc ls (.int x :: st) cn K N I R L n w := by
  obtain ⟨h1, h2, h3⟩ := hF cn (Nat.le_refl _)
  refine tr_newa hd hty hl1 hx0 hlen hsm hn hw ?_
  rw [cz_upself h1, cz_upself h2, cz_upself h3]
  exact kk
theorem tr_newqF {idx kd : Nat} {x : Int32} {len : Nat} (hF : cz_Fr cn I R L) (hd : decode (cz_cc M) pc = .ok (.anewarray idx, 3)) (h1 : 17 ≤ kd) (h2 : kd < 22) (hl1 : Cond.classLink (cz_on M.1) idx (cz_on (cz_el kd)) ∈ cz_T) (hl2 : cz_on (cz_el kd) ∈ cz_AO) (hx0 : ¬ x < 0) (hlen : x.toNatClampNeg = len) (hsm : len ≤ 4096) (hn : n + 1 ≤ (cz_rm M).cells) (hw : w + len ≤ (cz_rm M).slots)
    (kk : Tr X M (pc + 3) ls (.ref cn :: st) (cn + 1) (va_up K cn kd) (va_up N cn len) I R L (n + 1) (w + len)) : Tr X M pc ls (.int x :: st) cn K N I R L n w := by
  obtain ⟨g1, g2, g3⟩ := hF cn (Nat.le_refl _)
  refine tr_newq hd h1 h2 hl1 hl2 hx0 hlen hsm hn hw ?_
  rw [cz_upself g1, cz_upself g2, cz_upself g3]
  exact kk
end CzNewF
/-! ===== the run of constructors ===== -/
def cz_nw : Nat → Nat → Option Nat
  | 0, 15 => some 2
  | 0, 24 => some 4
  | 0, 31 => some 9
  | 0, 37 => some 1
  | 6, 9 => some 3
  | 10, 13 => some 0
  | 10, 23 => some 7
  | 10, 32 => some 3
  | 10, 39 => some 6
  | 10, 46 => some 8
  | 10, 53 => some 5
  | _, _ => none
theorem cz_nw_ok {o idx ci : Nat} (h : cz_nw o idx = some ci) : ci < 13 ∧ Cond.classLink (cz_on o) idx (cz_on ci) ∈ cz_T ∧ Cond.instantiable (cz_on ci) (cz_nf ci) ∈ cz_T ∧ Cond.initialized (cz_on ci) ∈ cz_T := by
  unfold cz_nw at h
  split at h <;> cases h
  · exact ⟨by decide, lc0_15, ins2, ini2⟩
  · exact ⟨by decide, lc0_24, ins4, ini4⟩
  · exact ⟨by decide, lc0_31, ins9, ini9⟩
  · exact ⟨by decide, lc0_37, ins1, ini1⟩
  · exact ⟨by decide, lc6_9, ins3, ini3⟩
  · exact ⟨by decide, lc10_13, ins0, ini0⟩
  · exact ⟨by decide, lc10_23, ins7, ini7⟩
  · exact ⟨by decide, lc10_32, ins3, ini3⟩
  · exact ⟨by decide, lc10_39, ins6, ini6⟩
  · exact ⟨by decide, lc10_46, ins8, ini8⟩
  · exact ⟨by decide, lc10_53, ins5, ini5⟩
def cz_aq : Nat → Nat → Option Nat
  | 0, 15 => some 18
  | 0, 24 => some 20
  | 0, 31 => some 21
  | 0, 37 => some 17
  | 6, 9 => some 19
  | _, _ => none
theorem cz_aq_ok {o idx kd : Nat} (h : cz_aq o idx = some kd) : 17 ≤ kd ∧ kd < 22 ∧ Cond.classLink (cz_on o) idx (cz_on (cz_el kd)) ∈ cz_T ∧ cz_on (cz_el kd) ∈ cz_AO := by
  unfold cz_aq at h
  split at h <;> cases h
  · exact ⟨by decide, by decide, lc0_15, by decide +kernel⟩
  · exact ⟨by decide, by decide, lc0_24, by decide +kernel⟩
  · exact ⟨by decide, by decide, lc0_31, by decide +kernel⟩
  · exact ⟨by decide, by decide, lc0_37, by decide +kernel⟩
  · exact ⟨by decide, by decide, lc6_9, by decide +kernel⟩
def cz_cm : Nat → cz_M
  | 0 => mX0_init
  | 1 => mX1_init
  | 2 => mX2_init
  | 3 => mX3_init
  | 4 => mX4_init
  | 5 => mX5_init
  | 6 => mX6_init
  | 7 => mX7_init
  | 8 => mX8_init
  | 9 => mX9_init
  | 10 => mX10_init
  | 11 => mX11_init
  | 12 => mX12_init
  | _ => mX0_init
def cz_np : Nat → Nat
  | 0 => 0
  | 1 => 0
  | 2 => 0
  | 3 => 0
  | 4 => 0
  | 5 => 2
  | 6 => 0
  | 7 => 2
  | 8 => 0
  | 9 => 0
  | 10 => 0
  | 11 => 0
  | 12 => 0
  | _ => 0
def cz_ic : Nat → Nat → Option (Nat × Bool)
  | 0, 3 => some (99, false)
  | 0, 26 => some (4, true)
  | 0, 47 => some (2, true)
  | 0, 48 => some (9, true)
  | 0, 49 => some (1, true)
  | 1, 1 => some (99, false)
  | 2, 1 => some (99, false)
  | 3, 3 => some (99, false)
  | 4, 3 => some (99, false)
  | 5, 3 => some (99, false)
  | 6, 3 => some (99, false)
  | 6, 20 => some (3, true)
  | 7, 3 => some (99, false)
  | 8, 3 => some (99, false)
  | 9, 1 => some (99, false)
  | 10, 1 => some (99, false)
  | 10, 15 => some (0, false)
  | 10, 25 => some (7, false)
  | 10, 34 => some (3, true)
  | 10, 41 => some (6, false)
  | 10, 48 => some (8, true)
  | 10, 55 => some (5, false)
  | 11, 3 => some (99, false)
  | 12, 3 => some (99, false)
  | _, _ => none
theorem cz_ic_ok {o idx ci : Nat} {b : Bool} (h : cz_ic o idx = some (ci, b)) : (ci = 99 ∧ b = false ∧ Cond.methodLink (cz_on o) idx objectInit ∈ cz_T) ∨ (ci < 13 ∧ b = false ∧ Cond.methodLink (cz_on o) idx (cz_nm (cz_cm ci)) ∈ cz_T) ∨ (ci < 13 ∧ b = true ∧ ∃ host, (cz_on o, idx, cz_nm (cz_cm ci), host) ∈ cz_NM) := by
  unfold cz_ic at h
  split at h <;> cases h
  · exact Or.inl ⟨rfl, rfl, lk0_3⟩
  · exact Or.inr (Or.inr ⟨by decide, rfl, _, lk0_26⟩)
  · exact Or.inr (Or.inr ⟨by decide, rfl, _, lk0_47⟩)
  · exact Or.inr (Or.inr ⟨by decide, rfl, _, lk0_48⟩)
  · exact Or.inr (Or.inr ⟨by decide, rfl, _, lk0_49⟩)
  · exact Or.inl ⟨rfl, rfl, lk1_1⟩
  · exact Or.inl ⟨rfl, rfl, lk2_1⟩
  · exact Or.inl ⟨rfl, rfl, lk3_3⟩
  · exact Or.inl ⟨rfl, rfl, lk4_3⟩
  · exact Or.inl ⟨rfl, rfl, lk5_3⟩
  · exact Or.inl ⟨rfl, rfl, lk6_3⟩
  · exact Or.inr (Or.inr ⟨by decide, rfl, _, lk6_20⟩)
  · exact Or.inl ⟨rfl, rfl, lk7_3⟩
  · exact Or.inl ⟨rfl, rfl, lk8_3⟩
  · exact Or.inl ⟨rfl, rfl, lk9_1⟩
  · exact Or.inl ⟨rfl, rfl, lk10_1⟩
  · exact Or.inr (Or.inl ⟨by decide, rfl, lk10_15⟩)
  · exact Or.inr (Or.inl ⟨by decide, rfl, lk10_25⟩)
  · exact Or.inr (Or.inr ⟨by decide, rfl, _, lk10_34⟩)
  · exact Or.inr (Or.inl ⟨by decide, rfl, lk10_41⟩)
  · exact Or.inr (Or.inr ⟨by decide, rfl, _, lk10_48⟩)
  · exact Or.inr (Or.inl ⟨by decide, rfl, lk10_55⟩)
  · exact Or.inl ⟨rfl, rfl, lk11_3⟩
  · exact Or.inl ⟨rfl, rfl, lk12_3⟩
theorem cz_cm_ok {ci : Nat} (h : ci < 13) : plainName (cz_nm (cz_cm ci)).cls = true ∧ (cz_nm (cz_cm ci)).cls = cz_on (cz_cm ci).1 ∧ 1 ≤ cz_nL (cz_cm ci) ∧ (cz_np ci = 2 → 3 ≤ cz_nL (cz_cm ci)) ∧ cz_my (cz_cm ci) ci (cz_np ci) ∧ Cond.instanceMethod (cz_nm (cz_cm ci)) ∈ cz_T ∧ (cz_nm (cz_cm ci)).name = "<init>" ∧ cz_rt (cz_cm ci) = none := match ci, h with
  | 0, _ => ⟨by decide +kernel, rfl, by decide, by decide, myX0_init, inX0_init, rfl, rfl⟩
  | 1, _ => ⟨by decide +kernel, rfl, by decide, by decide, myX1_init, inX1_init, rfl, rfl⟩
  | 2, _ => ⟨by decide +kernel, rfl, by decide, by decide, myX2_init, inX2_init, rfl, rfl⟩
  | 3, _ => ⟨by decide +kernel, rfl, by decide, by decide, myX3_init, inX3_init, rfl, rfl⟩
  | 4, _ => ⟨by decide +kernel, rfl, by decide, by decide, myX4_init, inX4_init, rfl, rfl⟩
  | 5, _ => ⟨by decide +kernel, rfl, by decide, by decide, myX5_init, inX5_init, rfl, rfl⟩
  | 6, _ => ⟨by decide +kernel, rfl, by decide, by decide, myX6_init, inX6_init, rfl, rfl⟩
  | 7, _ => ⟨by decide +kernel, rfl, by decide, by decide, myX7_init, inX7_init, rfl, rfl⟩
  | 8, _ => ⟨by decide +kernel, rfl, by decide, by decide, myX8_init, inX8_init, rfl, rfl⟩
  | 9, _ => ⟨by decide +kernel, rfl, by decide, by decide, myX9_init, inX9_init, rfl, rfl⟩
  | 10, _ => ⟨by decide +kernel, rfl, by decide, by decide, myX10_init, inX10_init, rfl, rfl⟩
  | 11, _ => ⟨by decide +kernel, rfl, by decide, by decide, myX11_init, inX11_init, rfl, rfl⟩
  | 12, _ => ⟨by decide +kernel, rfl, by decide, by decide, myX12_init, inX12_init, rfl, rfl⟩
  | ci + 13, h => absurd h (by omega)
theorem cz_arc {ty : ArrayType} (h : cz_at ty < 99) : Cond.arrayClass (newarray.typeOf ty) ∈ cz_T := by
  revert h
  cases ty <;> intro h <;> first | exact absurd h (by decide) | exact arc_byte | exact arc_int | exact arc_long | exact arc_boolean
abbrev cz_S : Type := Nat × (Nat → Nat) × (Nat → Nat) × cz_I × cz_R
def cz_go : Nat → cz_M → Nat → (Nat → Option Value) → List Value → Nat → (Nat → Nat) → (Nat → Nat) → cz_I → cz_R → Nat → Nat → Option cz_S
  | 0, _, _, _, _, _, _, _, _, _, _, _ => none
  | f + 1, M, pc, ls, st, cn, K, N, I, R, n, w =>
    match decode (cz_cc M) pc with
    | .ok (.aload_n i, 1) => (match ls i with
      | some (.ref x) => cz_go f M (pc + 1) ls (.ref x :: st) cn K N I R n w
      | _ => none)
    | .ok (.iload_n i, 1) => (match ls i with
      | some (.int x) => cz_go f M (pc + 1) ls (.int x :: st) cn K N I R n w
      | _ => none)
    | .ok (.iconst z, 1) => cz_go f M (pc + 1) ls (.int (Int32.ofInt z) :: st) cn K N I R n w
    | .ok (.bipush z, 2) => cz_go f M (pc + 2) ls (.int ((Int8.ofInt z).toInt32) :: st) cn K N I R n w
    | .ok (.sipush z, 3) => cz_go f M (pc + 3) ls (.int ((Int16.ofInt z).toInt32) :: st) cn K N I R n w
    | .ok (.dup, 1) => (match st with
      | .ref x :: st => cz_go f M (pc + 1) ls (.ref x :: .ref x :: st) cn K N I R n w
      | _ => none)
    | .ok (.istore_n i, 1) => (match st with
      | .int x :: st => if (i : Nat) < cz_nL M ∧ cz_lg M = [] then cz_go f M (pc + 1) (va_up ls i (some (.int x))) st cn K N I R n w else none
      | _ => none)
    | .ok (.iinc i z, 3) => (match ls i with
      | some (.int x) => if cz_lg M = [] then cz_go f M (pc + 3) (va_up ls i (some (.int (x + Int32.ofInt z)))) st cn K N I R n w else none
      | _ => none)
    | .ok (.if_icmp .ge off, 3) => (match st with
      | .int y :: .int x :: st => if y ≤ x then (if (pc : Int) + off = (((pc : Int) + off).toNat : Int) then cz_go f M ((pc : Int) + off).toNat ls st cn K N I R n w else none) else (if (pc : Int) + off = (((pc : Int) + off).toNat : Int) then cz_go f M (pc + 3) ls st cn K N I R n w else none)
      | _ => none)
    | .ok (.goto off, 3) => if (pc : Int) + off = (((pc : Int) + off).toNat : Int) then cz_go f M ((pc : Int) + off).toNat ls st cn K N I R n w else none
    | .ok (.new idx, 3) => (match cz_nw M.1 idx with
      | some ci => if n + 1 ≤ (cz_rm M).cells ∧ w + cz_nf ci ≤ (cz_rm M).slots then cz_go f M (pc + 3) ls (.ref cn :: st) (cn + 1) (va_up K cn ci) (va_up N cn 0) I R (n + 1) (w + cz_nf ci) else none
      | none => none)
    | .ok (.newarray ty, 2) => (match st with
      | .int x :: st => if cz_at ty < 99 ∧ ¬ x < 0 ∧ x.toNatClampNeg ≤ 4096 ∧ n + 1 ≤ (cz_rm M).cells ∧ w + x.toNatClampNeg ≤ (cz_rm M).slots then cz_go f M (pc + 2) ls (.ref cn :: st) (cn + 1) (va_up K cn (cz_at ty)) (va_up N cn x.toNatClampNeg) I R (n + 1) (w + x.toNatClampNeg) else none
      | _ => none)
    | .ok (.anewarray idx, 3) => (match cz_aq M.1 idx, st with
      | some kd, .int x :: st => if ¬ x < 0 ∧ x.toNatClampNeg ≤ 4096 ∧ n + 1 ≤ (cz_rm M).cells ∧ w + x.toNatClampNeg ≤ (cz_rm M).slots then cz_go f M (pc + 3) ls (.ref cn :: st) (cn + 1) (va_up K cn kd) (va_up N cn x.toNatClampNeg) I R (n + 1) (w + x.toNatClampNeg) else none
      | _, _ => none)
    | .ok (.getfield idx, 3) => (match cz_fl M.1 idx, st with
      | some (ci, j, 1, _), .ref k :: st => if K k = ci then (match R k j with
        | some x => cz_go f M (pc + 3) ls (.ref x :: st) cn K N I R n w
        | none => none) else none
      | _, _ => none)
    | .ok (.putfield idx, 3) => (match cz_fl M.1 idx, st with
      | some (ci, j, 1, b), .ref x :: .ref k :: st => if K k = ci ∧ k < cn ∧ ((cz_TT ci j).2.2.2 = false ∨ ((cz_nm M).name = "<init>" ∧ b = false ∧ (cz_TT ci j).1 = cz_on M.1)) then cz_go f M (pc + 3) ls st cn K N I (cz_uR R k j (some x)) n w else none
      | some (ci, j, 0, b), .int x :: .ref k :: st => if K k = ci ∧ k < cn ∧ ((cz_TT ci j).2.2.2 = false ∨ ((cz_nm M).name = "<init>" ∧ b = false ∧ (cz_TT ci j).1 = cz_on M.1)) then cz_go f M (pc + 3) ls st cn K N (cz_uI I k j x) R n w else none
      | _, _ => none)
    | .ok (.aastore, 1) => (match st with
      | .ref x :: .int i :: .ref k :: st => if 17 ≤ K k ∧ K k < 22 ∧ K x = cz_el (K k) ∧ ¬ (i < 0 ∨ N k ≤ i.toNatClampNeg) ∧ k < cn then cz_go f M (pc + 1) ls st cn K N I (cz_uR R k i.toNatClampNeg (some x)) n w else none
      | _ => none)
    | .ok (.invokespecial idx, 3) => (match cz_ic M.1 idx, st with
      | some (99, _), .ref _ :: st => if 1 ≤ (cz_rm M).frames ∧ (st.map fun v => v.category).sum + 12 ≤ (cz_rm M).locals then cz_go f M (pc + 3) ls st cn K N I R n w else none
      | some (ci, _), .ref k :: st => if cz_np ci = 0 then (if ((cz_rm (cz_cm ci)).frames + 1 ≤ (cz_rm M).frames ∧ 8 + (cz_nL (cz_cm ci) + 11) + (cz_rm (cz_cm ci)).locals ≤ (cz_rm M).locals) ∧ (st.map fun v => v.category).sum ≤ 8 ∧ n + (cz_rm (cz_cm ci)).cells ≤ (cz_rm M).cells ∧ w + (cz_rm (cz_cm ci)).slots ≤ (cz_rm M).slots then (match cz_go f (cz_cm ci) 0 (cz_en [.ref k]) [] cn K N I R 0 0 with
          | some (cn1, K1, N1, I1, R1) => cz_go f M (pc + 3) ls st cn1 K1 N1 I1 R1 (n + (cz_rm (cz_cm ci)).cells) (w + (cz_rm (cz_cm ci)).slots)
          | none => none) else none)
        else if cz_np ci = 2 then (match st with
          | .ref a :: .ref t :: st => (if ((cz_rm (cz_cm ci)).frames + 1 ≤ (cz_rm M).frames ∧ 8 + (cz_nL (cz_cm ci) + 11) + (cz_rm (cz_cm ci)).locals ≤ (cz_rm M).locals) ∧ (st.map fun v => v.category).sum ≤ 8 ∧ n + (cz_rm (cz_cm ci)).cells ≤ (cz_rm M).cells ∧ w + (cz_rm (cz_cm ci)).slots ≤ (cz_rm M).slots then (match cz_go f (cz_cm ci) 0 (cz_en [.ref t, .ref a, .ref k]) [] cn K N I R 0 0 with
            | some (cn1, K1, N1, I1, R1) => cz_go f M (pc + 3) ls st cn1 K1 N1 I1 R1 (n + (cz_rm (cz_cm ci)).cells) (w + (cz_rm (cz_cm ci)).slots)
            | none => none) else none)
          | _ => none) else none
      | _, _ => none)
    | .ok (.return_, 1) => (match st with
      | [] => if cz_rt M = none ∧ n ≤ (cz_rm M).cells ∧ w ≤ (cz_rm M).slots then some (cn, K, N, I, R) else none
      | _ => none)
    | _ => none
/-- a constructor's contract out of its run -/
theorem cz_gocon {l : Launch} {M' : cz_M} {as : List Value} {cn cn1 : Nat} {K N K1 N1 : Nat → Nat} {I I1 : cz_I} {R R1 : cz_R} {L : cz_L} (hy : plainName (cz_nm M').cls = true) (ho : (cz_nm M').cls = cz_on M'.1) (hlen : (lg_sl as).length ≤ cz_nL M') (hlg : (lv_args 0 as).all (fun q => !(q.2.category == 2) || (cz_lg M').contains q.1) = true)
    (h : ∀ (X : cz_X) (Q : cz_Q), cz_Z X M' Q → Q none cn1 K1 N1 I1 R1 L → Tr X M' 0 (cz_en as) [] cn K N I R L 0 0) : Con l M' as cn K N I R L (fun r cn' K' N' I' R' L' => r = none ∧ cn' = cn1 ∧ K' = K1 ∧ N' = N1 ∧ I' = I1 ∧ R' = R1 ∧ L' = L) :=
  Con.of hy ho hlen hlg (fun X _ hZ => h X _ hZ ⟨rfl, rfl, rfl, rfl, rfl, rfl, rfl⟩)
set_option maxHeartbeats 4000000 in
theorem cz_go_ok (L : cz_L) : ∀ (f : Nat) (M : cz_M) (pc : Nat) (ls : Nat → Option Value) (st : List Value) (cn : Nat) (K N : Nat → Nat) (I : cz_I) (R : cz_R) (n w cn' : Nat) (K' N' : Nat → Nat) (I' : cz_I) (R' : cz_R), cz_go f M pc ls st cn K N I R n w = some (cn', K', N', I', R') → cz_Fr cn I R L →
    cz_Fr cn' I' R' L ∧ ∀ (X : cz_X) (Q : cz_Q), cz_Z X M Q → Q none cn' K' N' I' R' L → Tr X M pc ls st cn K N I R L n w := by
  intro f
  induction f with
  | zero => intro M pc ls st cn K N I R n w cn' K' N' I' R' h; cases h
  | succ f ih =>
    intro M pc ls st cn K N I R n w cn' K' N' I' R' h hF
    rw [cz_go.eq_def] at h
    dsimp only at h
    split at h
    · rename_i i hd
      split at h
      · rename_i x hx
        obtain ⟨h1, h2⟩ := ih _ _ _ _ _ _ _ _ _ _ _ _ _ _ _ _ h hF
        exact ⟨h1, fun X Q hZ hQ => tr_aload_n hd hx (h2 X Q hZ hQ)⟩
      · cases h
    · rename_i i hd
      split at h
      · rename_i x hx
        obtain ⟨h1, h2⟩ := ih _ _ _ _ _ _ _ _ _ _ _ _ _ _ _ _ h hF
        exact ⟨h1, fun X Q hZ hQ => tr_iload_n hd hx (h2 X Q hZ hQ)⟩
      · cases h
    · rename_i z hd
      obtain ⟨h1, h2⟩ := ih _ _ _ _ _ _ _ _ _ _ _ _ _ _ _ _ h hF
      exact ⟨h1, fun X Q hZ hQ => tr_iconst hd rfl (h2 X Q hZ hQ)⟩
    · rename_i z hd
      obtain ⟨h1, h2⟩ := ih _ _ _ _ _ _ _ _ _ _ _ _ _ _ _ _ h hF
      exact ⟨h1, fun X Q hZ hQ => tr_bipush hd rfl (h2 X Q hZ hQ)⟩
    · rename_i z hd
      obtain ⟨h1, h2⟩ := ih _ _ _ _ _ _ _ _ _ _ _ _ _ _ _ _ h hF
      exact ⟨h1, fun X Q hZ hQ => tr_sipush hd rfl (h2 X Q hZ hQ)⟩
    · rename_i hd
      split at h
      · obtain ⟨h1, h2⟩ := ih _ _ _ _ _ _ _ _ _ _ _ _ _ _ _ _ h hF
        exact ⟨h1, fun X Q hZ hQ => tr_dup hd rfl (h2 X Q hZ hQ)⟩
      · cases h
    · rename_i i hd
      split at h
      · split at h
        · rename_i hc
          obtain ⟨h1, h2⟩ := ih _ _ _ _ _ _ _ _ _ _ _ _ _ _ _ _ h hF
          exact ⟨h1, fun X Q hZ hQ => tr_istore_n hd hc.1 (by rw [hc.2]; intro j hj; cases hj) (h2 X Q hZ hQ)⟩
        · cases h
      · cases h
    · rename_i i z hd
      split at h
      · rename_i x hx
        split at h
        · rename_i hc
          obtain ⟨h1, h2⟩ := ih _ _ _ _ _ _ _ _ _ _ _ _ _ _ _ _ h hF
          exact ⟨h1, fun X Q hZ hQ => tr_iinc hd hx (by rw [hc]; intro j hj; cases hj) (h2 X Q hZ hQ)⟩
        · cases h
      · cases h
    · rename_i off hd
      split at h
      · rename_i y x st
        split at h
        · rename_i hc
          split at h
          · rename_i ht
            obtain ⟨h1, h2⟩ := ih _ _ _ _ _ _ _ _ _ _ _ _ _ _ _ _ h hF
            exact ⟨h1, fun X Q hZ hQ => tr_icmp_ge _ hd ht (fun _ => h2 X Q hZ hQ) (fun q => absurd hc q)⟩
          · cases h
        · rename_i hc
          split at h
          · rename_i ht
            obtain ⟨h1, h2⟩ := ih _ _ _ _ _ _ _ _ _ _ _ _ _ _ _ _ h hF
            exact ⟨h1, fun X Q hZ hQ => tr_icmp_ge _ hd ht (fun q => absurd q hc) (fun _ => h2 X Q hZ hQ)⟩
          · cases h
      · cases h
    · rename_i off hd
      split at h
      · rename_i ht
        obtain ⟨h1, h2⟩ := ih _ _ _ _ _ _ _ _ _ _ _ _ _ _ _ _ h hF
        exact ⟨h1, fun X Q hZ hQ => tr_goto _ hd ht (h2 X Q hZ hQ)⟩
      · cases h
    · rename_i idx hd
      split at h
      · rename_i ci hx
        split at h
        · rename_i hc
          obtain ⟨h1, h2⟩ := ih _ _ _ _ _ _ _ _ _ _ _ _ _ _ _ _ h hF.more
          obtain ⟨q1, q2, q3, q4⟩ := cz_nw_ok hx
          exact ⟨h1, fun X Q hZ hQ => tr_newF hF hd q1 q2 q3 q4 hc.1 hc.2 (h2 X Q hZ hQ)⟩
        · cases h
      · cases h
    · rename_i ty hd
      split at h
      · split at h
        · rename_i hc
          obtain ⟨h1, h2⟩ := ih _ _ _ _ _ _ _ _ _ _ _ _ _ _ _ _ h hF.more
          exact ⟨h1, fun X Q hZ hQ => tr_newaF hF hd hc.1 (cz_arc hc.1) hc.2.1 rfl hc.2.2.1 hc.2.2.2.1 hc.2.2.2.2 (h2 X Q hZ hQ)⟩
        · cases h
      · cases h
    · rename_i idx hd
      split at h
      · rename_i kd x st hx
        split at h
        · rename_i hc
          obtain ⟨h1, h2⟩ := ih _ _ _ _ _ _ _ _ _ _ _ _ _ _ _ _ h hF.more
          obtain ⟨q1, q2, q3, q4⟩ := cz_aq_ok hx
          exact ⟨h1, fun X Q hZ hQ => tr_newqF hF hd q1 q2 q3 q4 hc.1 rfl hc.2.1 hc.2.2.1 hc.2.2.2 (h2 X Q hZ hQ)⟩
        · cases h
      · cases h
    · rename_i idx hd
      split at h
      · rename_i ci j b k st hx
        split at h
        · rename_i hc
          split at h
          · rename_i x hv
            obtain ⟨h1, h2⟩ := ih _ _ _ _ _ _ _ _ _ _ _ _ _ _ _ _ h hF
            exact ⟨h1, fun X Q hZ hQ => tr_getR hd hx hc hv (h2 X Q hZ hQ)⟩
          · cases h
        · cases h
      · cases h
    · rename_i idx hd
      split at h
      · rename_i ci j b x k st hx
        split at h
        · rename_i hc
          obtain ⟨h1, h2⟩ := ih _ _ _ _ _ _ _ _ _ _ _ _ _ _ _ _ h (hF.uR hc.2.1)
          exact ⟨h1, fun X Q hZ hQ => tr_putR hd hx hc.1 hc.2.2 (h2 X Q hZ hQ)⟩
        · cases h
      · rename_i ci j b x k st hx
        split at h
        · rename_i hc
          obtain ⟨h1, h2⟩ := ih _ _ _ _ _ _ _ _ _ _ _ _ _ _ _ _ h (hF.uI hc.2.1)
          exact ⟨h1, fun X Q hZ hQ => tr_putI hd hx hc.1 hc.2.2 (h2 X Q hZ hQ)⟩
        · cases h
      · cases h
    · rename_i hd
      split at h
      · rename_i x i k st
        split at h
        · rename_i hc
          obtain ⟨h1, h2⟩ := ih _ _ _ _ _ _ _ _ _ _ _ _ _ _ _ _ h (hF.uR hc.2.2.2.2)
          exact ⟨h1, fun X Q hZ hQ => tr_aast hd rfl hc.1 hc.2.1 hc.2.2.1 hc.2.2.2.1 (h2 X Q hZ hQ)⟩
        · cases h
      · cases h
    · rename_i idx hd
      split at h
      · rename_i b k st hx
        split at h
        · rename_i hc
          obtain ⟨h1, h2⟩ := ih _ _ _ _ _ _ _ _ _ _ _ _ _ _ _ _ h hF
          rcases cz_ic_ok hx with ⟨-, -, q⟩ | ⟨q, -⟩ | ⟨q, -⟩
          · exact ⟨h1, fun X Q hZ hQ => tr_obj hd q cz_oi cz_oc hc.1 hc.2 (h2 X Q hZ hQ)⟩
          · exact absurd q (by decide)
          · exact absurd q (by decide)
        · cases h
      · rename_i ci b k st hne hx
        have hci : ci < 13 := by
          rcases cz_ic_ok hx with ⟨q, -⟩ | ⟨q, -⟩ | ⟨q, -⟩
          · exact (hne q).elim
          · exact q
          · exact q
        obtain ⟨m1, m2, m3, m4, m5, m6, m7, m8⟩ := cz_cm_ok hci
        split at h
        · rename_i hnp
          rw [hnp] at m5
          split at h
          · rename_i hc
            split at h
            · rename_i cn1 K1 N1 I1 R1 hg
              obtain ⟨g1, g2⟩ := ih _ _ _ _ _ _ _ _ _ _ _ _ _ _ _ _ hg hF
              obtain ⟨h1, h2⟩ := ih _ _ _ _ _ _ _ _ _ _ _ _ _ _ _ _ h g1
              refine ⟨h1, fun X Q hZ hQ => ?_⟩
              have hCon := cz_gocon (l := X.2.1) m1 m2 (as := [.ref k]) m3 rfl g2
              rcases cz_ic_ok hx with ⟨q, -⟩ | ⟨-, -, q⟩ | ⟨-, -, host, q⟩
              · omega
              · exact tr_callI (as := []) hd q m6 m7 m8 m5 hc.1 rfl hc.2.1 hc.2.2.1 hc.2.2.2 hCon (fun r cn' K' N' I' R' L' hq => by obtain ⟨rfl, rfl, rfl, rfl, rfl, rfl, rfl⟩ := hq; exact h2 X Q hZ hQ)
              · exact tr_callIN (as := []) hd q m6 m7 m8 m5 hc.1 rfl hc.2.1 hc.2.2.1 hc.2.2.2 hCon (fun r cn' K' N' I' R' L' hq => by obtain ⟨rfl, rfl, rfl, rfl, rfl, rfl, rfl⟩ := hq; exact h2 X Q hZ hQ)
            · cases h
          · cases h
        · split at h
          · rename_i hnp
            rw [hnp] at m5
            split at h
            · rename_i a t st
              split at h
              · rename_i hc
                split at h
                · rename_i cn1 K1 N1 I1 R1 hg
                  obtain ⟨g1, g2⟩ := ih _ _ _ _ _ _ _ _ _ _ _ _ _ _ _ _ hg hF
                  obtain ⟨h1, h2⟩ := ih _ _ _ _ _ _ _ _ _ _ _ _ _ _ _ _ h g1
                  refine ⟨h1, fun X Q hZ hQ => ?_⟩
                  have hCon := cz_gocon (l := X.2.1) m1 m2 (as := [.ref t, .ref a, .ref k]) (m4 hnp) rfl g2
                  rcases cz_ic_ok hx with ⟨q, -⟩ | ⟨-, -, q⟩ | ⟨-, -, host, q⟩
                  · omega
                  · exact tr_callI (as := [.ref a, .ref k]) hd q m6 m7 m8 m5 hc.1 rfl hc.2.1 hc.2.2.1 hc.2.2.2 hCon (fun r cn' K' N' I' R' L' hq => by obtain ⟨rfl, rfl, rfl, rfl, rfl, rfl, rfl⟩ := hq; exact h2 X Q hZ hQ)
                  · exact tr_callIN (as := [.ref a, .ref k]) hd q m6 m7 m8 m5 hc.1 rfl hc.2.1 hc.2.2.1 hc.2.2.2 hCon (fun r cn' K' N' I' R' L' hq => by obtain ⟨rfl, rfl, rfl, rfl, rfl, rfl, rfl⟩ := hq; exact h2 X Q hZ hQ)
                · cases h
              · cases h
            · cases h
          · cases h
      · cases h
    · rename_i hd
      split at h
      · split at h
        · rename_i hc
          cases h
          exact ⟨hF, fun X Q hZ hQ => tr_vret hZ hd hc.1 hc.2.1 hc.2.2 hQ⟩
        · cases h
      · cases h
    · cases h
end
section
/-! ===== the object graph behind both constructors: kinds, lengths, references, ints ===== -/
def kdL : List Nat := [10, 13, 0, 14, 18, 14, 4, 14, 21, 17, 20, 2, 2, 2, 2, 2, 2, 2, 2, 2, 2, 2, 2, 2, 2, 9, 9, 9, 9, 9, 1, 1, 1, 1, 1, 1, 4, 14, 4, 14, 4, 14, 4, 14, 0, 14, 18, 14, 4, 14, 21, 17, 20, 2, 2, 2, 2, 2, 2, 2, 2, 2, 2, 2, 2, 2, 2, 9, 9, 9, 9, 9, 1, 1, 1, 1, 1, 1, 4, 14, 4, 14, 4, 14, 4, 14, 7, 15, 15, 3, 14, 14, 6, 19, 19, 3, 14, 14, 3, 14, 14, 3, 14, 14, 3, 14, 14, 3, 14, 14, 3, 14, 14, 3, 14, 14, 3, 14, 14, 3, 14, 14, 3, 14, 14, 3, 14, 14, 3, 14, 14, 3, 14, 14, 3, 14, 14, 3, 14, 14, 8, 16, 16, 16, 14, 14, 14, 14, 14, 14, 5, 14, 14, 14, 14, 14, 14, 14, 14, 14, 3, 14, 14, 8, 16, 16, 16, 14, 14, 14, 14, 14, 14, 5, 14, 14, 14, 14, 14, 14, 14, 14, 14, 12, 13, 14, 14, 14, 16, 16, 16, 16, 16, 16, 14, 14, 14, 14, 14, 14, 16, 14]
def lnL : List Nat := [0, 900, 0, 5, 14, 8, 0, 8, 5, 6, 4, 0, 0, 0, 0, 0, 0, 0, 0, 0, 0, 0, 0, 0, 0, 0, 0, 0, 0, 0, 0, 0, 0, 0, 0, 0, 0, 8, 0, 8, 0, 8, 0, 8, 0, 5, 14, 8, 0, 8, 5, 6, 4, 0, 0, 0, 0, 0, 0, 0, 0, 0, 0, 0, 0, 0, 0, 0, 0, 0, 0, 0, 0, 0, 0, 0, 0, 0, 0, 8, 0, 8, 0, 8, 0, 8, 0, 8, 5, 0, 6, 6, 0, 12, 3, 0, 6, 6, 0, 6, 6, 0, 6, 6, 0, 6, 6, 0, 6, 6, 0, 6, 6, 0, 6, 6, 0, 6, 6, 0, 6, 6, 0, 6, 6, 0, 6, 6, 0, 6, 6, 0, 6, 6, 0, 6, 6, 0, 6, 6, 0, 240, 240, 240, 240, 240, 240, 240, 240, 240, 0, 240, 8, 8, 8, 8, 5, 5, 5, 5, 0, 6, 6, 0, 240, 240, 240, 240, 240, 240, 240, 240, 240, 0, 240, 8, 8, 8, 8, 5, 5, 5, 5, 0, 900, 15, 180, 45, 240, 960, 960, 240, 240, 960, 1920, 5, 8, 8, 8, 8, 1920, 15]
def rfL : List (List (Option Nat)) := [[some 1, none, some 2, some 44, some 86, none, some 89, some 92, some 140, none, some 150, none, some 160, some 163, some 173], [], [none, none, some 3, none, some 4, none, some 5, none, some 6, none, some 8, none, some 9, none, some 10], [], [some 11, some 12, some 13, some 14, some 15, some 16, some 17, some 18, some 19, some 20, some 21, some 22, some 23, some 24], [], [none, some 7], [], [some 25, some 26, some 27, some 28, some 29], [some 30, some 31, some 32, some 33, some 34, some 35], [some 36, some 38, some 40, some 42], [], [], [], [], [], [], [], [], [], [], [], [], [], [], [], [], [], [], [], [], [], [], [], [], [], [none, some 37], [], [none, some 39], [], [none, some 41], [], [none, some 43], [], [none, none, some 45, none, some 46, none, some 47, none, some 48, none, some 50, none, some 51, none, some 52], [], [some 53, some 54, some 55, some 56, some 57, some 58, some 59, some 60, some 61, some 62, some 63, some 64, some 65, some 66], [], [none, some 49], [], [some 67, some 68, some 69, some 70, some 71], [some 72, some 73, some 74, some 75, some 76, some 77], [some 78, some 80, some 82, some 84], [], [], [], [], [], [], [], [], [], [], [], [], [], [], [], [], [], [], [], [], [], [], [], [], [], [none, some 79], [], [none, some 81], [], [none, some 83], [], [none, some 85], [], [some 1, none, none, none, none, none, none, none, none, none, some 44, none, none, some 87, some 88], [], [], [none, none, none, some 90, some 91], [], [], [none, some 93, none, some 94], [some 95, some 98, some 101, some 104, some 107, some 110, some 113, some 116, some 119, some 122, some 125, some 128], [some 131, some 134, some 137], [none, none, none, some 96, some 97], [], [], [none, none, none, some 99, some 100], [], [], [none, none, none, some 102, some 103], [], [], [none, none, none, some 105, some 106], [], [], [none, none, none, some 108, some 109], [], [], [none, none, none, some 111, some 112], [], [], [none, none, none, some 114, some 115], [], [], [none, none, none, some 117, some 118], [], [], [none, none, none, some 120, some 121], [], [], [none, none, none, some 123, some 124], [], [], [none, none, none, some 126, some 127], [], [], [none, none, none, some 129, some 130], [], [], [none, none, none, some 132, some 133], [], [], [none, none, none, some 135, some 136], [], [], [none, none, none, some 138, some 139], [], [], [none, none, some 141, some 142, some 143, some 144, some 145, some 146, some 147, some 148, none, some 149], [], [], [], [], [], [], [], [], [], [some 2, some 140, none, some 151, some 152, some 153, some 154, some 155, some 156, some 157, some 158, some 159], [], [], [], [], [], [], [], [], [], [none, none, none, some 161, some 162], [], [], [none, none, some 164, some 165, some 166, some 167, some 168, some 169, some 170, some 171, none, some 172], [], [], [], [], [], [], [], [], [], [some 2, some 163, none, some 174, some 175, some 176, some 177, some 178, some 179, some 180, some 181, some 182], [], [], [], [], [], [], [], [], [], [none, none, none, none, none, some 184, none, none, none, none, none, none, none, none, none, none, some 185, some 186, some 187, none, none, some 188, some 189, some 190, some 191, some 192, some 193, some 194, some 195, some 196, some 197, some 198, some 199, some 200, none, some 201], [], [], [], [], [], [], [], [], [], [], [], [], [], [], [], [], [], []]
def kd0 (k : Nat) : Nat := kdL.getD k 99
def ln0 (k : Nat) : Nat := lnL.getD k 0
def rf0 (k j : Nat) : Option Nat := (rfL.getD k []).getD j none
def in0 (k j : Nat) : Int32 := if k = 183 ∧ j = 2 then -1 else 0
def cz_run1 : Option cz_S := cz_go 1000 mX10_init 0 (cz_en [.ref 0]) [] 1 (va_up (fun _ => 99) 0 10) (va_up (fun _ => 0) 0 0) (fun _ _ => 0) (fun _ _ => none) 0 0
def cz_run2 (S : cz_S) : Option cz_S := match S with
  | (cn, K, N, I, R) => cz_go 1000 mX12_init 0 (cz_en [.ref cn]) [] (cn + 1) (va_up K cn 12) (va_up N cn 0) I R 0 0
def cz_chk (S : cz_S) : Bool := match S with
  | (cn, K, N, I, R) => cn == 202 && (List.range 202).all (fun k => K k == kd0 k && N k == ln0 k && (List.range (rfL.getD k []).length).all (fun j => R k j == rf0 k j) && (List.range (max (ln0 k) 36)).all (fun j => I k j == in0 k j))
def cz_chk2 : Bool := match cz_run1 with
  | some S => S.1 == 183 && (match cz_run2 S with
    | some S2 => cz_chk S2
    | none => false)
  | none => false
theorem cz_chk2_ok : cz_chk2 = true := by decide +kernel
/-- a store as it stands behind both constructors -/
def cz_new0 (cn : Nat) (K N : Nat → Nat) (I : cz_I) (R : cz_R) (L : cz_L) : Prop :=
  202 ≤ cn ∧ (∀ k : Nat, k < 202 → K k = kd0 k) ∧ (∀ k : Nat, k < 202 → N k = ln0 k) ∧ (∀ k j : Nat, k < 202 → j < (rfL.getD k []).length → R k j = rf0 k j) ∧ (∀ k j : Nat, k < 202 → j < max (ln0 k) 36 → I k j = in0 k j) ∧ cz_Fr cn I R L
theorem cz_made : ∃ (K1 N1 : Nat → Nat) (I1 : cz_I) (R1 : cz_R) (K N : Nat → Nat) (I : cz_I) (R : cz_R), cz_go 1000 mX10_init 0 (cz_en [.ref 0]) [] 1 (va_up (fun _ => 99) 0 10) (va_up (fun _ => 0) 0 0) (fun _ _ => 0) (fun _ _ => none) 0 0 = some (183, K1, N1, I1, R1) ∧
    cz_go 1000 mX12_init 0 (cz_en [.ref 183]) [] 184 (va_up K1 183 12) (va_up N1 183 0) I1 R1 0 0 = some (202, K, N, I, R) ∧ cz_new0 202 K N I R (fun _ _ => 0) := by
  have h := cz_chk2_ok
  unfold cz_chk2 at h
  split at h
  · rename_i S1 h1
    obtain ⟨cn1, K1, N1, I1, R1⟩ := S1
    rw [Bool.and_eq_true] at h
    obtain ⟨h2, h3⟩ := h
    have h2 : cn1 = 183 := by simpa using h2
    subst h2
    split at h3
    · rename_i S2 h4
      obtain ⟨cn, K, N, I, R⟩ := S2
      unfold cz_chk at h3
      simp only [Bool.and_eq_true, beq_iff_eq, List.all_eq_true, List.mem_range] at h3
      obtain ⟨rfl, h5⟩ := h3
      obtain ⟨f1, -⟩ := cz_go_ok (fun _ _ => 0) _ _ _ _ _ _ _ _ _ _ _ _ _ _ _ _ _ h1 (fun k _ => ⟨rfl, rfl, rfl⟩)
      obtain ⟨f2, -⟩ := cz_go_ok (fun _ _ => 0) _ _ _ _ _ _ _ _ _ _ _ _ _ _ _ _ _ h4 f1.more
      exact ⟨K1, N1, I1, R1, K, N, I, R, h1, h4, Nat.le_refl _, fun k hk => (h5 k hk).1.1.1, fun k hk => (h5 k hk).1.1.2, fun k j hk hj => (h5 k hk).1.2 j hj, fun k j hk hj => (h5 k hk).2 j hj, f2⟩
    · cases h3
  · cases h
theorem kd_0 : kd0 0 = 10 := by decide +kernel
theorem kd_1 : kd0 1 = 13 := by decide +kernel
theorem kd_2 : kd0 2 = 0 := by decide +kernel
theorem kd_3 : kd0 3 = 14 := by decide +kernel
theorem kd_4 : kd0 4 = 18 := by decide +kernel
theorem kd_5 : kd0 5 = 14 := by decide +kernel
theorem kd_6 : kd0 6 = 4 := by decide +kernel
theorem kd_7 : kd0 7 = 14 := by decide +kernel
theorem kd_8 : kd0 8 = 21 := by decide +kernel
theorem kd_9 : kd0 9 = 17 := by decide +kernel
theorem kd_10 : kd0 10 = 20 := by decide +kernel
theorem kd_11 : kd0 11 = 2 := by decide +kernel
theorem kd_12 : kd0 12 = 2 := by decide +kernel
theorem kd_13 : kd0 13 = 2 := by decide +kernel
theorem kd_14 : kd0 14 = 2 := by decide +kernel
theorem kd_15 : kd0 15 = 2 := by decide +kernel
theorem kd_16 : kd0 16 = 2 := by decide +kernel
theorem kd_17 : kd0 17 = 2 := by decide +kernel
theorem kd_18 : kd0 18 = 2 := by decide +kernel
theorem kd_19 : kd0 19 = 2 := by decide +kernel
theorem kd_20 : kd0 20 = 2 := by decide +kernel
theorem kd_21 : kd0 21 = 2 := by decide +kernel
theorem kd_22 : kd0 22 = 2 := by decide +kernel
theorem kd_23 : kd0 23 = 2 := by decide +kernel
theorem kd_24 : kd0 24 = 2 := by decide +kernel
theorem kd_25 : kd0 25 = 9 := by decide +kernel
theorem kd_26 : kd0 26 = 9 := by decide +kernel
theorem kd_27 : kd0 27 = 9 := by decide +kernel
theorem kd_28 : kd0 28 = 9 := by decide +kernel
theorem kd_29 : kd0 29 = 9 := by decide +kernel
theorem kd_30 : kd0 30 = 1 := by decide +kernel
theorem kd_31 : kd0 31 = 1 := by decide +kernel
theorem kd_32 : kd0 32 = 1 := by decide +kernel
theorem kd_33 : kd0 33 = 1 := by decide +kernel
theorem kd_34 : kd0 34 = 1 := by decide +kernel
theorem kd_35 : kd0 35 = 1 := by decide +kernel
theorem kd_36 : kd0 36 = 4 := by decide +kernel
theorem kd_37 : kd0 37 = 14 := by decide +kernel
theorem kd_38 : kd0 38 = 4 := by decide +kernel
theorem kd_39 : kd0 39 = 14 := by decide +kernel
theorem kd_40 : kd0 40 = 4 := by decide +kernel
theorem kd_41 : kd0 41 = 14 := by decide +kernel
theorem kd_42 : kd0 42 = 4 := by decide +kernel
theorem kd_43 : kd0 43 = 14 := by decide +kernel
theorem kd_44 : kd0 44 = 0 := by decide +kernel
theorem kd_45 : kd0 45 = 14 := by decide +kernel
theorem kd_46 : kd0 46 = 18 := by decide +kernel
theorem kd_47 : kd0 47 = 14 := by decide +kernel
theorem kd_48 : kd0 48 = 4 := by decide +kernel
theorem kd_49 : kd0 49 = 14 := by decide +kernel
theorem kd_50 : kd0 50 = 21 := by decide +kernel
theorem kd_51 : kd0 51 = 17 := by decide +kernel
theorem kd_52 : kd0 52 = 20 := by decide +kernel
theorem kd_53 : kd0 53 = 2 := by decide +kernel
theorem kd_54 : kd0 54 = 2 := by decide +kernel
theorem kd_55 : kd0 55 = 2 := by decide +kernel
theorem kd_56 : kd0 56 = 2 := by decide +kernel
theorem kd_57 : kd0 57 = 2 := by decide +kernel
theorem kd_58 : kd0 58 = 2 := by decide +kernel
theorem kd_59 : kd0 59 = 2 := by decide +kernel
theorem kd_60 : kd0 60 = 2 := by decide +kernel
theorem kd_61 : kd0 61 = 2 := by decide +kernel
theorem kd_62 : kd0 62 = 2 := by decide +kernel
theorem kd_63 : kd0 63 = 2 := by decide +kernel
theorem kd_64 : kd0 64 = 2 := by decide +kernel
theorem kd_65 : kd0 65 = 2 := by decide +kernel
theorem kd_66 : kd0 66 = 2 := by decide +kernel
theorem kd_67 : kd0 67 = 9 := by decide +kernel
theorem kd_68 : kd0 68 = 9 := by decide +kernel
theorem kd_69 : kd0 69 = 9 := by decide +kernel
theorem kd_70 : kd0 70 = 9 := by decide +kernel
theorem kd_71 : kd0 71 = 9 := by decide +kernel
theorem kd_72 : kd0 72 = 1 := by decide +kernel
theorem kd_73 : kd0 73 = 1 := by decide +kernel
theorem kd_74 : kd0 74 = 1 := by decide +kernel
theorem kd_75 : kd0 75 = 1 := by decide +kernel
theorem kd_76 : kd0 76 = 1 := by decide +kernel
theorem kd_77 : kd0 77 = 1 := by decide +kernel
theorem kd_78 : kd0 78 = 4 := by decide +kernel
theorem kd_79 : kd0 79 = 14 := by decide +kernel
theorem kd_80 : kd0 80 = 4 := by decide +kernel
theorem kd_81 : kd0 81 = 14 := by decide +kernel
theorem kd_82 : kd0 82 = 4 := by decide +kernel
theorem kd_83 : kd0 83 = 14 := by decide +kernel
theorem kd_84 : kd0 84 = 4 := by decide +kernel
theorem kd_85 : kd0 85 = 14 := by decide +kernel
theorem kd_86 : kd0 86 = 7 := by decide +kernel
theorem kd_87 : kd0 87 = 15 := by decide +kernel
theorem kd_88 : kd0 88 = 15 := by decide +kernel
theorem kd_89 : kd0 89 = 3 := by decide +kernel
theorem kd_90 : kd0 90 = 14 := by decide +kernel
theorem kd_91 : kd0 91 = 14 := by decide +kernel
theorem kd_92 : kd0 92 = 6 := by decide +kernel
theorem kd_93 : kd0 93 = 19 := by decide +kernel
theorem kd_94 : kd0 94 = 19 := by decide +kernel
theorem kd_95 : kd0 95 = 3 := by decide +kernel
theorem kd_96 : kd0 96 = 14 := by decide +kernel
theorem kd_97 : kd0 97 = 14 := by decide +kernel
theorem kd_98 : kd0 98 = 3 := by decide +kernel
theorem kd_99 : kd0 99 = 14 := by decide +kernel
theorem kd_100 : kd0 100 = 14 := by decide +kernel
theorem kd_101 : kd0 101 = 3 := by decide +kernel
theorem kd_102 : kd0 102 = 14 := by decide +kernel
theorem kd_103 : kd0 103 = 14 := by decide +kernel
theorem kd_104 : kd0 104 = 3 := by decide +kernel
theorem kd_105 : kd0 105 = 14 := by decide +kernel
theorem kd_106 : kd0 106 = 14 := by decide +kernel
theorem kd_107 : kd0 107 = 3 := by decide +kernel
theorem kd_108 : kd0 108 = 14 := by decide +kernel
theorem kd_109 : kd0 109 = 14 := by decide +kernel
theorem kd_110 : kd0 110 = 3 := by decide +kernel
theorem kd_111 : kd0 111 = 14 := by decide +kernel
theorem kd_112 : kd0 112 = 14 := by decide +kernel
theorem kd_113 : kd0 113 = 3 := by decide +kernel
theorem kd_114 : kd0 114 = 14 := by decide +kernel
theorem kd_115 : kd0 115 = 14 := by decide +kernel
theorem kd_116 : kd0 116 = 3 := by decide +kernel
theorem kd_117 : kd0 117 = 14 := by decide +kernel
theorem kd_118 : kd0 118 = 14 := by decide +kernel
theorem kd_119 : kd0 119 = 3 := by decide +kernel
theorem kd_120 : kd0 120 = 14 := by decide +kernel
theorem kd_121 : kd0 121 = 14 := by decide +kernel
theorem kd_122 : kd0 122 = 3 := by decide +kernel
theorem kd_123 : kd0 123 = 14 := by decide +kernel
theorem kd_124 : kd0 124 = 14 := by decide +kernel
theorem kd_125 : kd0 125 = 3 := by decide +kernel
theorem kd_126 : kd0 126 = 14 := by decide +kernel
theorem kd_127 : kd0 127 = 14 := by decide +kernel
theorem kd_128 : kd0 128 = 3 := by decide +kernel
theorem kd_129 : kd0 129 = 14 := by decide +kernel
theorem kd_130 : kd0 130 = 14 := by decide +kernel
theorem kd_131 : kd0 131 = 3 := by decide +kernel
theorem kd_132 : kd0 132 = 14 := by decide +kernel
theorem kd_133 : kd0 133 = 14 := by decide +kernel
theorem kd_134 : kd0 134 = 3 := by decide +kernel
theorem kd_135 : kd0 135 = 14 := by decide +kernel
theorem kd_136 : kd0 136 = 14 := by decide +kernel
theorem kd_137 : kd0 137 = 3 := by decide +kernel
theorem kd_138 : kd0 138 = 14 := by decide +kernel
theorem kd_139 : kd0 139 = 14 := by decide +kernel
theorem kd_140 : kd0 140 = 8 := by decide +kernel
theorem kd_141 : kd0 141 = 16 := by decide +kernel
theorem kd_142 : kd0 142 = 16 := by decide +kernel
theorem kd_143 : kd0 143 = 16 := by decide +kernel
theorem kd_144 : kd0 144 = 14 := by decide +kernel
theorem kd_145 : kd0 145 = 14 := by decide +kernel
theorem kd_146 : kd0 146 = 14 := by decide +kernel
theorem kd_147 : kd0 147 = 14 := by decide +kernel
theorem kd_148 : kd0 148 = 14 := by decide +kernel
theorem kd_149 : kd0 149 = 14 := by decide +kernel
theorem kd_150 : kd0 150 = 5 := by decide +kernel
theorem kd_151 : kd0 151 = 14 := by decide +kernel
theorem kd_152 : kd0 152 = 14 := by decide +kernel
theorem kd_153 : kd0 153 = 14 := by decide +kernel
theorem kd_154 : kd0 154 = 14 := by decide +kernel
theorem kd_155 : kd0 155 = 14 := by decide +kernel
theorem kd_156 : kd0 156 = 14 := by decide +kernel
theorem kd_157 : kd0 157 = 14 := by decide +kernel
theorem kd_158 : kd0 158 = 14 := by decide +kernel
theorem kd_159 : kd0 159 = 14 := by decide +kernel
theorem kd_160 : kd0 160 = 3 := by decide +kernel
theorem kd_161 : kd0 161 = 14 := by decide +kernel
theorem kd_162 : kd0 162 = 14 := by decide +kernel
theorem kd_163 : kd0 163 = 8 := by decide +kernel
theorem kd_164 : kd0 164 = 16 := by decide +kernel
theorem kd_165 : kd0 165 = 16 := by decide +kernel
theorem kd_166 : kd0 166 = 16 := by decide +kernel
theorem kd_167 : kd0 167 = 14 := by decide +kernel
theorem kd_168 : kd0 168 = 14 := by decide +kernel
theorem kd_169 : kd0 169 = 14 := by decide +kernel
theorem kd_170 : kd0 170 = 14 := by decide +kernel
theorem kd_171 : kd0 171 = 14 := by decide +kernel
theorem kd_172 : kd0 172 = 14 := by decide +kernel
theorem kd_173 : kd0 173 = 5 := by decide +kernel
theorem kd_174 : kd0 174 = 14 := by decide +kernel
theorem kd_175 : kd0 175 = 14 := by decide +kernel
theorem kd_176 : kd0 176 = 14 := by decide +kernel
theorem kd_177 : kd0 177 = 14 := by decide +kernel
theorem kd_178 : kd0 178 = 14 := by decide +kernel
theorem kd_179 : kd0 179 = 14 := by decide +kernel
theorem kd_180 : kd0 180 = 14 := by decide +kernel
theorem kd_181 : kd0 181 = 14 := by decide +kernel
theorem kd_182 : kd0 182 = 14 := by decide +kernel
theorem kd_183 : kd0 183 = 12 := by decide +kernel
theorem kd_184 : kd0 184 = 13 := by decide +kernel
theorem kd_185 : kd0 185 = 14 := by decide +kernel
theorem kd_186 : kd0 186 = 14 := by decide +kernel
theorem kd_187 : kd0 187 = 14 := by decide +kernel
theorem kd_188 : kd0 188 = 16 := by decide +kernel
theorem kd_189 : kd0 189 = 16 := by decide +kernel
theorem kd_190 : kd0 190 = 16 := by decide +kernel
theorem kd_191 : kd0 191 = 16 := by decide +kernel
theorem kd_192 : kd0 192 = 16 := by decide +kernel
theorem kd_193 : kd0 193 = 16 := by decide +kernel
theorem kd_194 : kd0 194 = 14 := by decide +kernel
theorem kd_195 : kd0 195 = 14 := by decide +kernel
theorem kd_196 : kd0 196 = 14 := by decide +kernel
theorem kd_197 : kd0 197 = 14 := by decide +kernel
theorem kd_198 : kd0 198 = 14 := by decide +kernel
theorem kd_199 : kd0 199 = 14 := by decide +kernel
theorem kd_200 : kd0 200 = 16 := by decide +kernel
theorem kd_201 : kd0 201 = 14 := by decide +kernel
theorem ln_1 : ln0 1 = 900 := by decide +kernel
theorem ln_3 : ln0 3 = 5 := by decide +kernel
theorem ln_4 : ln0 4 = 14 := by decide +kernel
theorem ln_5 : ln0 5 = 8 := by decide +kernel
theorem ln_7 : ln0 7 = 8 := by decide +kernel
theorem ln_8 : ln0 8 = 5 := by decide +kernel
theorem ln_9 : ln0 9 = 6 := by decide +kernel
theorem ln_10 : ln0 10 = 4 := by decide +kernel
theorem ln_37 : ln0 37 = 8 := by decide +kernel
theorem ln_39 : ln0 39 = 8 := by decide +kernel
theorem ln_41 : ln0 41 = 8 := by decide +kernel
theorem ln_43 : ln0 43 = 8 := by decide +kernel
theorem ln_45 : ln0 45 = 5 := by decide +kernel
theorem ln_46 : ln0 46 = 14 := by decide +kernel
theorem ln_47 : ln0 47 = 8 := by decide +kernel
theorem ln_49 : ln0 49 = 8 := by decide +kernel
theorem ln_50 : ln0 50 = 5 := by decide +kernel
theorem ln_51 : ln0 51 = 6 := by decide +kernel
theorem ln_52 : ln0 52 = 4 := by decide +kernel
theorem ln_79 : ln0 79 = 8 := by decide +kernel
theorem ln_81 : ln0 81 = 8 := by decide +kernel
theorem ln_83 : ln0 83 = 8 := by decide +kernel
theorem ln_85 : ln0 85 = 8 := by decide +kernel
theorem ln_87 : ln0 87 = 8 := by decide +kernel
theorem ln_88 : ln0 88 = 5 := by decide +kernel
theorem ln_90 : ln0 90 = 6 := by decide +kernel
theorem ln_91 : ln0 91 = 6 := by decide +kernel
theorem ln_93 : ln0 93 = 12 := by decide +kernel
theorem ln_94 : ln0 94 = 3 := by decide +kernel
theorem ln_96 : ln0 96 = 6 := by decide +kernel
theorem ln_97 : ln0 97 = 6 := by decide +kernel
theorem ln_99 : ln0 99 = 6 := by decide +kernel
theorem ln_100 : ln0 100 = 6 := by decide +kernel
theorem ln_102 : ln0 102 = 6 := by decide +kernel
theorem ln_103 : ln0 103 = 6 := by decide +kernel
theorem ln_105 : ln0 105 = 6 := by decide +kernel
theorem ln_106 : ln0 106 = 6 := by decide +kernel
theorem ln_108 : ln0 108 = 6 := by decide +kernel
theorem ln_109 : ln0 109 = 6 := by decide +kernel
theorem ln_111 : ln0 111 = 6 := by decide +kernel
theorem ln_112 : ln0 112 = 6 := by decide +kernel
theorem ln_114 : ln0 114 = 6 := by decide +kernel
theorem ln_115 : ln0 115 = 6 := by decide +kernel
theorem ln_117 : ln0 117 = 6 := by decide +kernel
theorem ln_118 : ln0 118 = 6 := by decide +kernel
theorem ln_120 : ln0 120 = 6 := by decide +kernel
theorem ln_121 : ln0 121 = 6 := by decide +kernel
theorem ln_123 : ln0 123 = 6 := by decide +kernel
theorem ln_124 : ln0 124 = 6 := by decide +kernel
theorem ln_126 : ln0 126 = 6 := by decide +kernel
theorem ln_127 : ln0 127 = 6 := by decide +kernel
theorem ln_129 : ln0 129 = 6 := by decide +kernel
theorem ln_130 : ln0 130 = 6 := by decide +kernel
theorem ln_132 : ln0 132 = 6 := by decide +kernel
theorem ln_133 : ln0 133 = 6 := by decide +kernel
theorem ln_135 : ln0 135 = 6 := by decide +kernel
theorem ln_136 : ln0 136 = 6 := by decide +kernel
theorem ln_138 : ln0 138 = 6 := by decide +kernel
theorem ln_139 : ln0 139 = 6 := by decide +kernel
theorem ln_141 : ln0 141 = 240 := by decide +kernel
theorem ln_142 : ln0 142 = 240 := by decide +kernel
theorem ln_143 : ln0 143 = 240 := by decide +kernel
theorem ln_144 : ln0 144 = 240 := by decide +kernel
theorem ln_145 : ln0 145 = 240 := by decide +kernel
theorem ln_146 : ln0 146 = 240 := by decide +kernel
theorem ln_147 : ln0 147 = 240 := by decide +kernel
theorem ln_148 : ln0 148 = 240 := by decide +kernel
theorem ln_149 : ln0 149 = 240 := by decide +kernel
theorem ln_151 : ln0 151 = 240 := by decide +kernel
theorem ln_152 : ln0 152 = 8 := by decide +kernel
theorem ln_153 : ln0 153 = 8 := by decide +kernel
theorem ln_154 : ln0 154 = 8 := by decide +kernel
theorem ln_155 : ln0 155 = 8 := by decide +kernel
theorem ln_156 : ln0 156 = 5 := by decide +kernel
theorem ln_157 : ln0 157 = 5 := by decide +kernel
theorem ln_158 : ln0 158 = 5 := by decide +kernel
theorem ln_159 : ln0 159 = 5 := by decide +kernel
theorem ln_161 : ln0 161 = 6 := by decide +kernel
theorem ln_162 : ln0 162 = 6 := by decide +kernel
theorem ln_164 : ln0 164 = 240 := by decide +kernel
theorem ln_165 : ln0 165 = 240 := by decide +kernel
theorem ln_166 : ln0 166 = 240 := by decide +kernel
theorem ln_167 : ln0 167 = 240 := by decide +kernel
theorem ln_168 : ln0 168 = 240 := by decide +kernel
theorem ln_169 : ln0 169 = 240 := by decide +kernel
theorem ln_170 : ln0 170 = 240 := by decide +kernel
theorem ln_171 : ln0 171 = 240 := by decide +kernel
theorem ln_172 : ln0 172 = 240 := by decide +kernel
theorem ln_174 : ln0 174 = 240 := by decide +kernel
theorem ln_175 : ln0 175 = 8 := by decide +kernel
theorem ln_176 : ln0 176 = 8 := by decide +kernel
theorem ln_177 : ln0 177 = 8 := by decide +kernel
theorem ln_178 : ln0 178 = 8 := by decide +kernel
theorem ln_179 : ln0 179 = 5 := by decide +kernel
theorem ln_180 : ln0 180 = 5 := by decide +kernel
theorem ln_181 : ln0 181 = 5 := by decide +kernel
theorem ln_182 : ln0 182 = 5 := by decide +kernel
theorem ln_184 : ln0 184 = 900 := by decide +kernel
theorem ln_185 : ln0 185 = 15 := by decide +kernel
theorem ln_186 : ln0 186 = 180 := by decide +kernel
theorem ln_187 : ln0 187 = 45 := by decide +kernel
theorem ln_188 : ln0 188 = 240 := by decide +kernel
theorem ln_189 : ln0 189 = 960 := by decide +kernel
theorem ln_190 : ln0 190 = 960 := by decide +kernel
theorem ln_191 : ln0 191 = 240 := by decide +kernel
theorem ln_192 : ln0 192 = 240 := by decide +kernel
theorem ln_193 : ln0 193 = 960 := by decide +kernel
theorem ln_194 : ln0 194 = 1920 := by decide +kernel
theorem ln_195 : ln0 195 = 5 := by decide +kernel
theorem ln_196 : ln0 196 = 8 := by decide +kernel
theorem ln_197 : ln0 197 = 8 := by decide +kernel
theorem ln_198 : ln0 198 = 8 := by decide +kernel
theorem ln_199 : ln0 199 = 8 := by decide +kernel
theorem ln_200 : ln0 200 = 1920 := by decide +kernel
theorem ln_201 : ln0 201 = 15 := by decide +kernel
theorem rf_0_0 : rf0 0 0 = some 1 := by decide +kernel
theorem rf_0_2 : rf0 0 2 = some 2 := by decide +kernel
theorem rf_0_3 : rf0 0 3 = some 44 := by decide +kernel
theorem rf_0_4 : rf0 0 4 = some 86 := by decide +kernel
theorem rf_0_6 : rf0 0 6 = some 89 := by decide +kernel
theorem rf_0_7 : rf0 0 7 = some 92 := by decide +kernel
theorem rf_0_8 : rf0 0 8 = some 140 := by decide +kernel
theorem rf_0_10 : rf0 0 10 = some 150 := by decide +kernel
theorem rf_0_12 : rf0 0 12 = some 160 := by decide +kernel
theorem rf_0_13 : rf0 0 13 = some 163 := by decide +kernel
theorem rf_0_14 : rf0 0 14 = some 173 := by decide +kernel
theorem rf_2_2 : rf0 2 2 = some 3 := by decide +kernel
theorem rf_2_4 : rf0 2 4 = some 4 := by decide +kernel
theorem rf_2_6 : rf0 2 6 = some 5 := by decide +kernel
theorem rf_2_8 : rf0 2 8 = some 6 := by decide +kernel
theorem rf_2_10 : rf0 2 10 = some 8 := by decide +kernel
theorem rf_2_12 : rf0 2 12 = some 9 := by decide +kernel
theorem rf_2_14 : rf0 2 14 = some 10 := by decide +kernel
theorem rf_4_0 : rf0 4 0 = some 11 := by decide +kernel
theorem rf_4_1 : rf0 4 1 = some 12 := by decide +kernel
theorem rf_4_2 : rf0 4 2 = some 13 := by decide +kernel
theorem rf_4_3 : rf0 4 3 = some 14 := by decide +kernel
theorem rf_4_4 : rf0 4 4 = some 15 := by decide +kernel
theorem rf_4_5 : rf0 4 5 = some 16 := by decide +kernel
theorem rf_4_6 : rf0 4 6 = some 17 := by decide +kernel
theorem rf_4_7 : rf0 4 7 = some 18 := by decide +kernel
theorem rf_4_8 : rf0 4 8 = some 19 := by decide +kernel
theorem rf_4_9 : rf0 4 9 = some 20 := by decide +kernel
theorem rf_4_10 : rf0 4 10 = some 21 := by decide +kernel
theorem rf_4_11 : rf0 4 11 = some 22 := by decide +kernel
theorem rf_4_12 : rf0 4 12 = some 23 := by decide +kernel
theorem rf_4_13 : rf0 4 13 = some 24 := by decide +kernel
theorem rf_6_1 : rf0 6 1 = some 7 := by decide +kernel
theorem rf_8_0 : rf0 8 0 = some 25 := by decide +kernel
theorem rf_8_1 : rf0 8 1 = some 26 := by decide +kernel
theorem rf_8_2 : rf0 8 2 = some 27 := by decide +kernel
theorem rf_8_3 : rf0 8 3 = some 28 := by decide +kernel
theorem rf_8_4 : rf0 8 4 = some 29 := by decide +kernel
theorem rf_9_0 : rf0 9 0 = some 30 := by decide +kernel
theorem rf_9_1 : rf0 9 1 = some 31 := by decide +kernel
theorem rf_9_2 : rf0 9 2 = some 32 := by decide +kernel
theorem rf_9_3 : rf0 9 3 = some 33 := by decide +kernel
theorem rf_9_4 : rf0 9 4 = some 34 := by decide +kernel
theorem rf_9_5 : rf0 9 5 = some 35 := by decide +kernel
theorem rf_10_0 : rf0 10 0 = some 36 := by decide +kernel
theorem rf_10_1 : rf0 10 1 = some 38 := by decide +kernel
theorem rf_10_2 : rf0 10 2 = some 40 := by decide +kernel
theorem rf_10_3 : rf0 10 3 = some 42 := by decide +kernel
theorem rf_36_1 : rf0 36 1 = some 37 := by decide +kernel
theorem rf_38_1 : rf0 38 1 = some 39 := by decide +kernel
theorem rf_40_1 : rf0 40 1 = some 41 := by decide +kernel
theorem rf_42_1 : rf0 42 1 = some 43 := by decide +kernel
theorem rf_44_2 : rf0 44 2 = some 45 := by decide +kernel
theorem rf_44_4 : rf0 44 4 = some 46 := by decide +kernel
theorem rf_44_6 : rf0 44 6 = some 47 := by decide +kernel
theorem rf_44_8 : rf0 44 8 = some 48 := by decide +kernel
theorem rf_44_10 : rf0 44 10 = some 50 := by decide +kernel
theorem rf_44_12 : rf0 44 12 = some 51 := by decide +kernel
theorem rf_44_14 : rf0 44 14 = some 52 := by decide +kernel
theorem rf_46_0 : rf0 46 0 = some 53 := by decide +kernel
theorem rf_46_1 : rf0 46 1 = some 54 := by decide +kernel
theorem rf_46_2 : rf0 46 2 = some 55 := by decide +kernel
theorem rf_46_3 : rf0 46 3 = some 56 := by decide +kernel
theorem rf_46_4 : rf0 46 4 = some 57 := by decide +kernel
theorem rf_46_5 : rf0 46 5 = some 58 := by decide +kernel
theorem rf_46_6 : rf0 46 6 = some 59 := by decide +kernel
theorem rf_46_7 : rf0 46 7 = some 60 := by decide +kernel
theorem rf_46_8 : rf0 46 8 = some 61 := by decide +kernel
theorem rf_46_9 : rf0 46 9 = some 62 := by decide +kernel
theorem rf_46_10 : rf0 46 10 = some 63 := by decide +kernel
theorem rf_46_11 : rf0 46 11 = some 64 := by decide +kernel
theorem rf_46_12 : rf0 46 12 = some 65 := by decide +kernel
theorem rf_46_13 : rf0 46 13 = some 66 := by decide +kernel
theorem rf_48_1 : rf0 48 1 = some 49 := by decide +kernel
theorem rf_50_0 : rf0 50 0 = some 67 := by decide +kernel
theorem rf_50_1 : rf0 50 1 = some 68 := by decide +kernel
theorem rf_50_2 : rf0 50 2 = some 69 := by decide +kernel
theorem rf_50_3 : rf0 50 3 = some 70 := by decide +kernel
theorem rf_50_4 : rf0 50 4 = some 71 := by decide +kernel
theorem rf_51_0 : rf0 51 0 = some 72 := by decide +kernel
theorem rf_51_1 : rf0 51 1 = some 73 := by decide +kernel
theorem rf_51_2 : rf0 51 2 = some 74 := by decide +kernel
theorem rf_51_3 : rf0 51 3 = some 75 := by decide +kernel
theorem rf_51_4 : rf0 51 4 = some 76 := by decide +kernel
theorem rf_51_5 : rf0 51 5 = some 77 := by decide +kernel
theorem rf_52_0 : rf0 52 0 = some 78 := by decide +kernel
theorem rf_52_1 : rf0 52 1 = some 80 := by decide +kernel
theorem rf_52_2 : rf0 52 2 = some 82 := by decide +kernel
theorem rf_52_3 : rf0 52 3 = some 84 := by decide +kernel
theorem rf_78_1 : rf0 78 1 = some 79 := by decide +kernel
theorem rf_80_1 : rf0 80 1 = some 81 := by decide +kernel
theorem rf_82_1 : rf0 82 1 = some 83 := by decide +kernel
theorem rf_84_1 : rf0 84 1 = some 85 := by decide +kernel
theorem rf_86_0 : rf0 86 0 = some 1 := by decide +kernel
theorem rf_86_10 : rf0 86 10 = some 44 := by decide +kernel
theorem rf_86_13 : rf0 86 13 = some 87 := by decide +kernel
theorem rf_86_14 : rf0 86 14 = some 88 := by decide +kernel
theorem rf_89_3 : rf0 89 3 = some 90 := by decide +kernel
theorem rf_89_4 : rf0 89 4 = some 91 := by decide +kernel
theorem rf_92_1 : rf0 92 1 = some 93 := by decide +kernel
theorem rf_92_3 : rf0 92 3 = some 94 := by decide +kernel
theorem rf_93_0 : rf0 93 0 = some 95 := by decide +kernel
theorem rf_93_1 : rf0 93 1 = some 98 := by decide +kernel
theorem rf_93_2 : rf0 93 2 = some 101 := by decide +kernel
theorem rf_93_3 : rf0 93 3 = some 104 := by decide +kernel
theorem rf_93_4 : rf0 93 4 = some 107 := by decide +kernel
theorem rf_93_5 : rf0 93 5 = some 110 := by decide +kernel
theorem rf_93_6 : rf0 93 6 = some 113 := by decide +kernel
theorem rf_93_7 : rf0 93 7 = some 116 := by decide +kernel
theorem rf_93_8 : rf0 93 8 = some 119 := by decide +kernel
theorem rf_93_9 : rf0 93 9 = some 122 := by decide +kernel
theorem rf_93_10 : rf0 93 10 = some 125 := by decide +kernel
theorem rf_93_11 : rf0 93 11 = some 128 := by decide +kernel
theorem rf_94_0 : rf0 94 0 = some 131 := by decide +kernel
theorem rf_94_1 : rf0 94 1 = some 134 := by decide +kernel
theorem rf_94_2 : rf0 94 2 = some 137 := by decide +kernel
theorem rf_95_3 : rf0 95 3 = some 96 := by decide +kernel
theorem rf_95_4 : rf0 95 4 = some 97 := by decide +kernel
theorem rf_98_3 : rf0 98 3 = some 99 := by decide +kernel
theorem rf_98_4 : rf0 98 4 = some 100 := by decide +kernel
theorem rf_101_3 : rf0 101 3 = some 102 := by decide +kernel
theorem rf_101_4 : rf0 101 4 = some 103 := by decide +kernel
theorem rf_104_3 : rf0 104 3 = some 105 := by decide +kernel
theorem rf_104_4 : rf0 104 4 = some 106 := by decide +kernel
theorem rf_107_3 : rf0 107 3 = some 108 := by decide +kernel
theorem rf_107_4 : rf0 107 4 = some 109 := by decide +kernel
theorem rf_110_3 : rf0 110 3 = some 111 := by decide +kernel
theorem rf_110_4 : rf0 110 4 = some 112 := by decide +kernel
theorem rf_113_3 : rf0 113 3 = some 114 := by decide +kernel
theorem rf_113_4 : rf0 113 4 = some 115 := by decide +kernel
theorem rf_116_3 : rf0 116 3 = some 117 := by decide +kernel
theorem rf_116_4 : rf0 116 4 = some 118 := by decide +kernel
theorem rf_119_3 : rf0 119 3 = some 120 := by decide +kernel
theorem rf_119_4 : rf0 119 4 = some 121 := by decide +kernel
theorem rf_122_3 : rf0 122 3 = some 123 := by decide +kernel
theorem rf_122_4 : rf0 122 4 = some 124 := by decide +kernel
theorem rf_125_3 : rf0 125 3 = some 126 := by decide +kernel
theorem rf_125_4 : rf0 125 4 = some 127 := by decide +kernel
theorem rf_128_3 : rf0 128 3 = some 129 := by decide +kernel
theorem rf_128_4 : rf0 128 4 = some 130 := by decide +kernel
theorem rf_131_3 : rf0 131 3 = some 132 := by decide +kernel
theorem rf_131_4 : rf0 131 4 = some 133 := by decide +kernel
theorem rf_134_3 : rf0 134 3 = some 135 := by decide +kernel
theorem rf_134_4 : rf0 134 4 = some 136 := by decide +kernel
theorem rf_137_3 : rf0 137 3 = some 138 := by decide +kernel
theorem rf_137_4 : rf0 137 4 = some 139 := by decide +kernel
theorem rf_140_2 : rf0 140 2 = some 141 := by decide +kernel
theorem rf_140_3 : rf0 140 3 = some 142 := by decide +kernel
theorem rf_140_4 : rf0 140 4 = some 143 := by decide +kernel
theorem rf_140_5 : rf0 140 5 = some 144 := by decide +kernel
theorem rf_140_6 : rf0 140 6 = some 145 := by decide +kernel
theorem rf_140_7 : rf0 140 7 = some 146 := by decide +kernel
theorem rf_140_8 : rf0 140 8 = some 147 := by decide +kernel
theorem rf_140_9 : rf0 140 9 = some 148 := by decide +kernel
theorem rf_140_11 : rf0 140 11 = some 149 := by decide +kernel
theorem rf_150_0 : rf0 150 0 = some 2 := by decide +kernel
theorem rf_150_1 : rf0 150 1 = some 140 := by decide +kernel
theorem rf_150_3 : rf0 150 3 = some 151 := by decide +kernel
theorem rf_150_4 : rf0 150 4 = some 152 := by decide +kernel
theorem rf_150_5 : rf0 150 5 = some 153 := by decide +kernel
theorem rf_150_6 : rf0 150 6 = some 154 := by decide +kernel
theorem rf_150_7 : rf0 150 7 = some 155 := by decide +kernel
theorem rf_150_8 : rf0 150 8 = some 156 := by decide +kernel
theorem rf_150_9 : rf0 150 9 = some 157 := by decide +kernel
theorem rf_150_10 : rf0 150 10 = some 158 := by decide +kernel
theorem rf_150_11 : rf0 150 11 = some 159 := by decide +kernel
theorem rf_160_3 : rf0 160 3 = some 161 := by decide +kernel
theorem rf_160_4 : rf0 160 4 = some 162 := by decide +kernel
theorem rf_163_2 : rf0 163 2 = some 164 := by decide +kernel
theorem rf_163_3 : rf0 163 3 = some 165 := by decide +kernel
theorem rf_163_4 : rf0 163 4 = some 166 := by decide +kernel
theorem rf_163_5 : rf0 163 5 = some 167 := by decide +kernel
theorem rf_163_6 : rf0 163 6 = some 168 := by decide +kernel
theorem rf_163_7 : rf0 163 7 = some 169 := by decide +kernel
theorem rf_163_8 : rf0 163 8 = some 170 := by decide +kernel
theorem rf_163_9 : rf0 163 9 = some 171 := by decide +kernel
theorem rf_163_11 : rf0 163 11 = some 172 := by decide +kernel
theorem rf_173_0 : rf0 173 0 = some 2 := by decide +kernel
theorem rf_173_1 : rf0 173 1 = some 163 := by decide +kernel
theorem rf_173_3 : rf0 173 3 = some 174 := by decide +kernel
theorem rf_173_4 : rf0 173 4 = some 175 := by decide +kernel
theorem rf_173_5 : rf0 173 5 = some 176 := by decide +kernel
theorem rf_173_6 : rf0 173 6 = some 177 := by decide +kernel
theorem rf_173_7 : rf0 173 7 = some 178 := by decide +kernel
theorem rf_173_8 : rf0 173 8 = some 179 := by decide +kernel
theorem rf_173_9 : rf0 173 9 = some 180 := by decide +kernel
theorem rf_173_10 : rf0 173 10 = some 181 := by decide +kernel
theorem rf_173_11 : rf0 173 11 = some 182 := by decide +kernel
theorem rf_183_5 : rf0 183 5 = some 184 := by decide +kernel
theorem rf_183_16 : rf0 183 16 = some 185 := by decide +kernel
theorem rf_183_17 : rf0 183 17 = some 186 := by decide +kernel
theorem rf_183_18 : rf0 183 18 = some 187 := by decide +kernel
theorem rf_183_21 : rf0 183 21 = some 188 := by decide +kernel
theorem rf_183_22 : rf0 183 22 = some 189 := by decide +kernel
theorem rf_183_23 : rf0 183 23 = some 190 := by decide +kernel
theorem rf_183_24 : rf0 183 24 = some 191 := by decide +kernel
theorem rf_183_25 : rf0 183 25 = some 192 := by decide +kernel
theorem rf_183_26 : rf0 183 26 = some 193 := by decide +kernel
theorem rf_183_27 : rf0 183 27 = some 194 := by decide +kernel
theorem rf_183_28 : rf0 183 28 = some 195 := by decide +kernel
theorem rf_183_29 : rf0 183 29 = some 196 := by decide +kernel
theorem rf_183_30 : rf0 183 30 = some 197 := by decide +kernel
theorem rf_183_31 : rf0 183 31 = some 198 := by decide +kernel
theorem rf_183_32 : rf0 183 32 = some 199 := by decide +kernel
theorem rf_183_33 : rf0 183 33 = some 200 := by decide +kernel
theorem rf_183_35 : rf0 183 35 = some 201 := by decide +kernel
end
section
section CzInl
variable {X : cz_X} {M : cz_M} {pc : Nat} {ls : Nat → Option Value} {st : List Value} {cn : Nat} {K N : Nat → Nat} {I : cz_I} {R : cz_R} {L : cz_L} {n w : Nat}
theorem tr_topi {x : Int32} (y : Int32) (h : x = y) (k : Tr X M pc ls (.int y :: st) cn K N I R L n w) : Tr X M pc ls (.int x :: st) cn K N I R L n w := by rw [h]; exact k
theorem tr_topl {x : Int64} (y : Int64) (h : x = y) (k : Tr X M pc ls (.long y :: st) cn K N I R L n w) : Tr X M pc ls (.long x :: st) cn K N I R L n w := by rw [h]; exact k
theorem cz_inl {i : Int32} {a : Nat} (b : Nat) (h : a = b) (hd : ¬ (i < 0 ∨ b ≤ i.toNatClampNeg)) : vp_in i a := by rw [h]; exact hd
/-- what a caller does with the answer -/
def cz_ki (X : cz_X) (M : cz_M) (pc : Nat) (ls : Nat → Option Value) (st : List Value) (n w : Nat) : cz_Q := fun r cn K N I R L => ∃ x : Int32, r = some (.int x) ∧ Tr X M pc ls (.int x :: st) cn K N I R L n w
def cz_kl (X : cz_X) (M : cz_M) (pc : Nat) (ls : Nat → Option Value) (st : List Value) (n w : Nat) : cz_Q := fun r cn K N I R L => ∃ x : Int64, r = some (.long x) ∧ Tr X M pc ls (.long x :: st) cn K N I R L n w
def cz_kr (X : cz_X) (M : cz_M) (pc : Nat) (ls : Nat → Option Value) (st : List Value) (n w : Nat) : cz_Q := fun r cn K N I R L => ∃ x : Nat, r = some (.ref x) ∧ Tr X M pc ls (.ref x :: st) cn K N I R L n w
def cz_ks (X : cz_X) (M : cz_M) (pc : Nat) (ls : Nat → Option Value) (st : List Value) (n w : Nat) : cz_Q := fun r cn K N I R L => ∃ x : UInt32, r = some (.float x) ∧ Tr X M pc ls (.float x :: st) cn K N I R L n w
def cz_kv (X : cz_X) (M : cz_M) (pc : Nat) (ls : Nat → Option Value) (st : List Value) (n w : Nat) : cz_Q := fun r cn K N I R L => r = none ∧ Tr X M pc ls st cn K N I R L n w
theorem tr_inVi {M' : cz_M} {as : List Value} {k ci np idx : Nat} (hd : decode (cz_cc M) pc = .ok (.invokevirtual idx, 3)) (hlk : Cond.methodLink (cz_on M.1) idx (cz_nm M') ∈ cz_T) (hin : Cond.instanceMethod (cz_nm M') ∈ cz_T) (hse : Cond.selects (cz_on ci) (cz_nm M') (cz_nm M') ∈ cz_T) (hmy : cz_my M' ci np) (hci : ci < 13) (hrm : cz_room M M') (hnp : as.length = np) (hk : K k = ci) (hst : (st.map fun v => v.category).sum ≤ 8) (hn : n + (cz_rm M').cells ≤ (cz_rm M).cells) (hw : w + (cz_rm M').slots ≤ (cz_rm M).slots) (hCon : Con X.2.1 M' (.ref k :: as) cn K N I R L (cz_ki X M (pc + 3) ls st (n + (cz_rm M').cells) (w + (cz_rm M').slots))) : Tr X M pc ls (as.reverse ++ .ref k :: st) cn K N I R L n w :=
  tr_callV hd hlk hin hse hmy hci hrm hnp hk hst hn hw hCon (fun r cn' K' N' I' R' L' h => by obtain ⟨x, rfl, hq⟩ := h; exact hq)
theorem tr_inVl {M' : cz_M} {as : List Value} {k ci np idx : Nat} (hd : decode (cz_cc M) pc = .ok (.invokevirtual idx, 3)) (hlk : Cond.methodLink (cz_on M.1) idx (cz_nm M') ∈ cz_T) (hin : Cond.instanceMethod (cz_nm M') ∈ cz_T) (hse : Cond.selects (cz_on ci) (cz_nm M') (cz_nm M') ∈ cz_T) (hmy : cz_my M' ci np) (hci : ci < 13) (hrm : cz_room M M') (hnp : as.length = np) (hk : K k = ci) (hst : (st.map fun v => v.category).sum ≤ 8) (hn : n + (cz_rm M').cells ≤ (cz_rm M).cells) (hw : w + (cz_rm M').slots ≤ (cz_rm M).slots) (hCon : Con X.2.1 M' (.ref k :: as) cn K N I R L (cz_kl X M (pc + 3) ls st (n + (cz_rm M').cells) (w + (cz_rm M').slots))) : Tr X M pc ls (as.reverse ++ .ref k :: st) cn K N I R L n w :=
  tr_callV hd hlk hin hse hmy hci hrm hnp hk hst hn hw hCon (fun r cn' K' N' I' R' L' h => by obtain ⟨x, rfl, hq⟩ := h; exact hq)
theorem tr_inVr {M' : cz_M} {as : List Value} {k ci np idx : Nat} (hd : decode (cz_cc M) pc = .ok (.invokevirtual idx, 3)) (hlk : Cond.methodLink (cz_on M.1) idx (cz_nm M') ∈ cz_T) (hin : Cond.instanceMethod (cz_nm M') ∈ cz_T) (hse : Cond.selects (cz_on ci) (cz_nm M') (cz_nm M') ∈ cz_T) (hmy : cz_my M' ci np) (hci : ci < 13) (hrm : cz_room M M') (hnp : as.length = np) (hk : K k = ci) (hst : (st.map fun v => v.category).sum ≤ 8) (hn : n + (cz_rm M').cells ≤ (cz_rm M).cells) (hw : w + (cz_rm M').slots ≤ (cz_rm M).slots) (hCon : Con X.2.1 M' (.ref k :: as) cn K N I R L (cz_kr X M (pc + 3) ls st (n + (cz_rm M').cells) (w + (cz_rm M').slots))) : Tr X M pc ls (as.reverse ++ .ref k :: st) cn K N I R L n w :=
  tr_callV hd hlk hin hse hmy hci hrm hnp hk hst hn hw hCon (fun r cn' K' N' I' R' L' h => by obtain ⟨x, rfl, hq⟩ := h; exact hq)
theorem tr_inVs {M' : cz_M} {as : List Value} {k ci np idx : Nat} (hd : decode (cz_cc M) pc = .ok (.invokevirtual idx, 3)) (hlk : Cond.methodLink (cz_on M.1) idx (cz_nm M') ∈ cz_T) (hin : Cond.instanceMethod (cz_nm M') ∈ cz_T) (hse : Cond.selects (cz_on ci) (cz_nm M') (cz_nm M') ∈ cz_T) (hmy : cz_my M' ci np) (hci : ci < 13) (hrm : cz_room M M') (hnp : as.length = np) (hk : K k = ci) (hst : (st.map fun v => v.category).sum ≤ 8) (hn : n + (cz_rm M').cells ≤ (cz_rm M).cells) (hw : w + (cz_rm M').slots ≤ (cz_rm M).slots) (hCon : Con X.2.1 M' (.ref k :: as) cn K N I R L (cz_ks X M (pc + 3) ls st (n + (cz_rm M').cells) (w + (cz_rm M').slots))) : Tr X M pc ls (as.reverse ++ .ref k :: st) cn K N I R L n w :=
  tr_callV hd hlk hin hse hmy hci hrm hnp hk hst hn hw hCon (fun r cn' K' N' I' R' L' h => by obtain ⟨x, rfl, hq⟩ := h; exact hq)
theorem tr_inVv {M' : cz_M} {as : List Value} {k ci np idx : Nat} (hd : decode (cz_cc M) pc = .ok (.invokevirtual idx, 3)) (hlk : Cond.methodLink (cz_on M.1) idx (cz_nm M') ∈ cz_T) (hin : Cond.instanceMethod (cz_nm M') ∈ cz_T) (hse : Cond.selects (cz_on ci) (cz_nm M') (cz_nm M') ∈ cz_T) (hmy : cz_my M' ci np) (hci : ci < 13) (hrm : cz_room M M') (hnp : as.length = np) (hk : K k = ci) (hst : (st.map fun v => v.category).sum ≤ 8) (hn : n + (cz_rm M').cells ≤ (cz_rm M).cells) (hw : w + (cz_rm M').slots ≤ (cz_rm M).slots) (hCon : Con X.2.1 M' (.ref k :: as) cn K N I R L (cz_kv X M (pc + 3) ls st (n + (cz_rm M').cells) (w + (cz_rm M').slots))) : Tr X M pc ls (as.reverse ++ .ref k :: st) cn K N I R L n w :=
  tr_callV hd hlk hin hse hmy hci hrm hnp hk hst hn hw hCon (fun r cn' K' N' I' R' L' h => by obtain ⟨rfl, hq⟩ := h; exact hq)
theorem tr_inVNi {M' : cz_M} {as : List Value} {k ci np idx : Nat} {host : String} (hd : decode (cz_cc M) pc = .ok (.invokevirtual idx, 3)) (hlk : (cz_on M.1, idx, cz_nm M', host) ∈ cz_NM) (hin : Cond.instanceMethod (cz_nm M') ∈ cz_T) (hse : Cond.selects (cz_on ci) (cz_nm M') (cz_nm M') ∈ cz_T) (hmy : cz_my M' ci np) (hci : ci < 13) (hrm : cz_room M M') (hnp : as.length = np) (hk : K k = ci) (hst : (st.map fun v => v.category).sum ≤ 8) (hn : n + (cz_rm M').cells ≤ (cz_rm M).cells) (hw : w + (cz_rm M').slots ≤ (cz_rm M).slots) (hCon : Con X.2.1 M' (.ref k :: as) cn K N I R L (cz_ki X M (pc + 3) ls st (n + (cz_rm M').cells) (w + (cz_rm M').slots))) : Tr X M pc ls (as.reverse ++ .ref k :: st) cn K N I R L n w :=
  tr_callVN hd hlk hin hse hmy hci hrm hnp hk hst hn hw hCon (fun r cn' K' N' I' R' L' h => by obtain ⟨x, rfl, hq⟩ := h; exact hq)
theorem tr_inVNl {M' : cz_M} {as : List Value} {k ci np idx : Nat} {host : String} (hd : decode (cz_cc M) pc = .ok (.invokevirtual idx, 3)) (hlk : (cz_on M.1, idx, cz_nm M', host) ∈ cz_NM) (hin : Cond.instanceMethod (cz_nm M') ∈ cz_T) (hse : Cond.selects (cz_on ci) (cz_nm M') (cz_nm M') ∈ cz_T) (hmy : cz_my M' ci np) (hci : ci < 13) (hrm : cz_room M M') (hnp : as.length = np) (hk : K k = ci) (hst : (st.map fun v => v.category).sum ≤ 8) (hn : n + (cz_rm M').cells ≤ (cz_rm M).cells) (hw : w + (cz_rm M').slots ≤ (cz_rm M).slots) (hCon : Con X.2.1 M' (.ref k :: as) cn K N I R L (cz_kl X M (pc + 3) ls st (n + (cz_rm M').cells) (w + (cz_rm M').slots))) : Tr X M pc ls (as.reverse ++ .ref k :: st) cn K N I R L n w :=
  tr_callVN hd hlk hin hse hmy hci hrm hnp hk hst hn hw hCon (fun r cn' K' N' I' R' L' h => by obtain ⟨x, rfl, hq⟩ := h; exact hq)
theorem tr_inVNr {M' : cz_M} {as : List Value} {k ci np idx : Nat} {host : String} (hd : decode (cz_cc M) pc = .ok (.invokevirtual idx, 3)) (hlk : (cz_on M.1, idx, cz_nm M', host) ∈ cz_NM) (hin : Cond.instanceMethod (cz_nm M') ∈ cz_T) (hse : Cond.selects (cz_on ci) (cz_nm M') (cz_nm M') ∈ cz_T) (hmy : cz_my M' ci np) (hci : ci < 13) (hrm : cz_room M M') (hnp : as.length = np) (hk : K k = ci) (hst : (st.map fun v => v.category).sum ≤ 8) (hn : n + (cz_rm M').cells ≤ (cz_rm M).cells) (hw : w + (cz_rm M').slots ≤ (cz_rm M).slots) (hCon : Con X.2.1 M' (.ref k :: as) cn K N I R L (cz_kr X M (pc + 3) ls st (n + (cz_rm M').cells) (w + (cz_rm M').slots))) : Tr X M pc ls (as.reverse ++ .ref k :: st) cn K N I R L n w :=
  tr_callVN hd hlk hin hse hmy hci hrm hnp hk hst hn hw hCon (fun r cn' K' N' I' R' L' h => by obtain ⟨x, rfl, hq⟩ := h; exact hq)
theorem tr_inVNs {M' : cz_M} {as : List Value} {k ci np idx : Nat} {host : String} (hd : decode (cz_cc M) pc = .ok (.invokevirtual idx, 3)) (hlk : (cz_on M.1, idx, cz_nm M', host) ∈ cz_NM) (hin : Cond.instanceMethod (cz_nm M') ∈ cz_T) (hse : Cond.selects (cz_on ci) (cz_nm M') (cz_nm M') ∈ cz_T) (hmy : cz_my M' ci np) (hci : ci < 13) (hrm : cz_room M M') (hnp : as.length = np) (hk : K k = ci) (hst : (st.map fun v => v.category).sum ≤ 8) (hn : n + (cz_rm M').cells ≤ (cz_rm M).cells) (hw : w + (cz_rm M').slots ≤ (cz_rm M).slots) (hCon : Con X.2.1 M' (.ref k :: as) cn K N I R L (cz_ks X M (pc + 3) ls st (n + (cz_rm M').cells) (w + (cz_rm M').slots))) : Tr X M pc ls (as.reverse ++ .ref k :: st) cn K N I R L n w :=
  tr_callVN hd hlk hin hse hmy hci hrm hnp hk hst hn hw hCon (fun r cn' K' N' I' R' L' h => by obtain ⟨x, rfl, hq⟩ := h; exact hq)
theorem tr_inVNv {M' : cz_M} {as : List Value} {k ci np idx : Nat} {host : String} (hd : decode (cz_cc M) pc = .ok (.invokevirtual idx, 3)) (hlk : (cz_on M.1, idx, cz_nm M', host) ∈ cz_NM) (hin : Cond.instanceMethod (cz_nm M') ∈ cz_T) (hse : Cond.selects (cz_on ci) (cz_nm M') (cz_nm M') ∈ cz_T) (hmy : cz_my M' ci np) (hci : ci < 13) (hrm : cz_room M M') (hnp : as.length = np) (hk : K k = ci) (hst : (st.map fun v => v.category).sum ≤ 8) (hn : n + (cz_rm M').cells ≤ (cz_rm M).cells) (hw : w + (cz_rm M').slots ≤ (cz_rm M).slots) (hCon : Con X.2.1 M' (.ref k :: as) cn K N I R L (cz_kv X M (pc + 3) ls st (n + (cz_rm M').cells) (w + (cz_rm M').slots))) : Tr X M pc ls (as.reverse ++ .ref k :: st) cn K N I R L n w :=
  tr_callVN hd hlk hin hse hmy hci hrm hnp hk hst hn hw hCon (fun r cn' K' N' I' R' L' h => by obtain ⟨rfl, hq⟩ := h; exact hq)
theorem tr_inSi {M' : cz_M} {as : List Value} {ci np idx : Nat} (hd : decode (cz_cc M) pc = .ok (.invokestatic idx, 3)) (hlk : Cond.methodLink (cz_on M.1) idx (cz_nm M') ∈ cz_T) (hin : Cond.static (cz_nm M') ∈ cz_T) (hmy : cz_my M' ci np) (hrm : cz_room M M') (hnp : as.length = np)  (hst : (st.map fun v => v.category).sum ≤ 8) (hn : n + (cz_rm M').cells ≤ (cz_rm M).cells) (hw : w + (cz_rm M').slots ≤ (cz_rm M).slots) (hCon : Con X.2.1 M' (as) cn K N I R L (cz_ki X M (pc + 3) ls st (n + (cz_rm M').cells) (w + (cz_rm M').slots))) : Tr X M pc ls (as.reverse ++ st) cn K N I R L n w :=
  tr_callS hd hlk hin hmy hrm hnp  hst hn hw hCon (fun r cn' K' N' I' R' L' h => by obtain ⟨x, rfl, hq⟩ := h; exact hq)
theorem tr_inSl {M' : cz_M} {as : List Value} {ci np idx : Nat} (hd : decode (cz_cc M) pc = .ok (.invokestatic idx, 3)) (hlk : Cond.methodLink (cz_on M.1) idx (cz_nm M') ∈ cz_T) (hin : Cond.static (cz_nm M') ∈ cz_T) (hmy : cz_my M' ci np) (hrm : cz_room M M') (hnp : as.length = np)  (hst : (st.map fun v => v.category).sum ≤ 8) (hn : n + (cz_rm M').cells ≤ (cz_rm M).cells) (hw : w + (cz_rm M').slots ≤ (cz_rm M).slots) (hCon : Con X.2.1 M' (as) cn K N I R L (cz_kl X M (pc + 3) ls st (n + (cz_rm M').cells) (w + (cz_rm M').slots))) : Tr X M pc ls (as.reverse ++ st) cn K N I R L n w :=
  tr_callS hd hlk hin hmy hrm hnp  hst hn hw hCon (fun r cn' K' N' I' R' L' h => by obtain ⟨x, rfl, hq⟩ := h; exact hq)
theorem tr_inSr {M' : cz_M} {as : List Value} {ci np idx : Nat} (hd : decode (cz_cc M) pc = .ok (.invokestatic idx, 3)) (hlk : Cond.methodLink (cz_on M.1) idx (cz_nm M') ∈ cz_T) (hin : Cond.static (cz_nm M') ∈ cz_T) (hmy : cz_my M' ci np) (hrm : cz_room M M') (hnp : as.length = np)  (hst : (st.map fun v => v.category).sum ≤ 8) (hn : n + (cz_rm M').cells ≤ (cz_rm M).cells) (hw : w + (cz_rm M').slots ≤ (cz_rm M).slots) (hCon : Con X.2.1 M' (as) cn K N I R L (cz_kr X M (pc + 3) ls st (n + (cz_rm M').cells) (w + (cz_rm M').slots))) : Tr X M pc ls (as.reverse ++ st) cn K N I R L n w :=
  tr_callS hd hlk hin hmy hrm hnp  hst hn hw hCon (fun r cn' K' N' I' R' L' h => by obtain ⟨x, rfl, hq⟩ := h; exact hq)
theorem tr_inSs {M' : cz_M} {as : List Value} {ci np idx : Nat} (hd : decode (cz_cc M) pc = .ok (.invokestatic idx, 3)) (hlk : Cond.methodLink (cz_on M.1) idx (cz_nm M') ∈ cz_T) (hin : Cond.static (cz_nm M') ∈ cz_T) (hmy : cz_my M' ci np) (hrm : cz_room M M') (hnp : as.length = np)  (hst : (st.map fun v => v.category).sum ≤ 8) (hn : n + (cz_rm M').cells ≤ (cz_rm M).cells) (hw : w + (cz_rm M').slots ≤ (cz_rm M).slots) (hCon : Con X.2.1 M' (as) cn K N I R L (cz_ks X M (pc + 3) ls st (n + (cz_rm M').cells) (w + (cz_rm M').slots))) : Tr X M pc ls (as.reverse ++ st) cn K N I R L n w :=
  tr_callS hd hlk hin hmy hrm hnp  hst hn hw hCon (fun r cn' K' N' I' R' L' h => by obtain ⟨x, rfl, hq⟩ := h; exact hq)
theorem tr_inSv {M' : cz_M} {as : List Value} {ci np idx : Nat} (hd : decode (cz_cc M) pc = .ok (.invokestatic idx, 3)) (hlk : Cond.methodLink (cz_on M.1) idx (cz_nm M') ∈ cz_T) (hin : Cond.static (cz_nm M') ∈ cz_T) (hmy : cz_my M' ci np) (hrm : cz_room M M') (hnp : as.length = np)  (hst : (st.map fun v => v.category).sum ≤ 8) (hn : n + (cz_rm M').cells ≤ (cz_rm M).cells) (hw : w + (cz_rm M').slots ≤ (cz_rm M).slots) (hCon : Con X.2.1 M' (as) cn K N I R L (cz_kv X M (pc + 3) ls st (n + (cz_rm M').cells) (w + (cz_rm M').slots))) : Tr X M pc ls (as.reverse ++ st) cn K N I R L n w :=
  tr_callS hd hlk hin hmy hrm hnp  hst hn hw hCon (fun r cn' K' N' I' R' L' h => by obtain ⟨rfl, hq⟩ := h; exact hq)
theorem tr_inSNi {M' : cz_M} {as : List Value} {ci np idx : Nat} {host : String} (hd : decode (cz_cc M) pc = .ok (.invokestatic idx, 3)) (hlk : (cz_on M.1, idx, cz_nm M', host) ∈ cz_NM) (hin : Cond.static (cz_nm M') ∈ cz_T) (hmy : cz_my M' ci np) (hrm : cz_room M M') (hnp : as.length = np)  (hst : (st.map fun v => v.category).sum ≤ 8) (hn : n + (cz_rm M').cells ≤ (cz_rm M).cells) (hw : w + (cz_rm M').slots ≤ (cz_rm M).slots) (hCon : Con X.2.1 M' (as) cn K N I R L (cz_ki X M (pc + 3) ls st (n + (cz_rm M').cells) (w + (cz_rm M').slots))) : Tr X M pc ls (as.reverse ++ st) cn K N I R L n w :=
  tr_callSN hd hlk hin hmy hrm hnp  hst hn hw hCon (fun r cn' K' N' I' R' L' h => by obtain ⟨x, rfl, hq⟩ := h; exact hq)
theorem tr_inSNl {M' : cz_M} {as : List Value} {ci np idx : Nat} {host : String} (hd : decode (cz_cc M) pc = .ok (.invokestatic idx, 3)) (hlk : (cz_on M.1, idx, cz_nm M', host) ∈ cz_NM) (hin : Cond.static (cz_nm M') ∈ cz_T) (hmy : cz_my M' ci np) (hrm : cz_room M M') (hnp : as.length = np)  (hst : (st.map fun v => v.category).sum ≤ 8) (hn : n + (cz_rm M').cells ≤ (cz_rm M).cells) (hw : w + (cz_rm M').slots ≤ (cz_rm M).slots) (hCon : Con X.2.1 M' (as) cn K N I R L (cz_kl X M (pc + 3) ls st (n + (cz_rm M').cells) (w + (cz_rm M').slots))) : Tr X M pc ls (as.reverse ++ st) cn K N I R L n w :=
  tr_callSN hd hlk hin hmy hrm hnp  hst hn hw hCon (fun r cn' K' N' I' R' L' h => by obtain ⟨x, rfl, hq⟩ := h; exact hq)
theorem tr_inSNr {M' : cz_M} {as : List Value} {ci np idx : Nat} {host : String} (hd : decode (cz_cc M) pc = .ok (.invokestatic idx, 3)) (hlk : (cz_on M.1, idx, cz_nm M', host) ∈ cz_NM) (hin : Cond.static (cz_nm M') ∈ cz_T) (hmy : cz_my M' ci np) (hrm : cz_room M M') (hnp : as.length = np)  (hst : (st.map fun v => v.category).sum ≤ 8) (hn : n + (cz_rm M').cells ≤ (cz_rm M).cells) (hw : w + (cz_rm M').slots ≤ (cz_rm M).slots) (hCon : Con X.2.1 M' (as) cn K N I R L (cz_kr X M (pc + 3) ls st (n + (cz_rm M').cells) (w + (cz_rm M').slots))) : Tr X M pc ls (as.reverse ++ st) cn K N I R L n w :=
  tr_callSN hd hlk hin hmy hrm hnp  hst hn hw hCon (fun r cn' K' N' I' R' L' h => by obtain ⟨x, rfl, hq⟩ := h; exact hq)
theorem tr_inSNs {M' : cz_M} {as : List Value} {ci np idx : Nat} {host : String} (hd : decode (cz_cc M) pc = .ok (.invokestatic idx, 3)) (hlk : (cz_on M.1, idx, cz_nm M', host) ∈ cz_NM) (hin : Cond.static (cz_nm M') ∈ cz_T) (hmy : cz_my M' ci np) (hrm : cz_room M M') (hnp : as.length = np)  (hst : (st.map fun v => v.category).sum ≤ 8) (hn : n + (cz_rm M').cells ≤ (cz_rm M).cells) (hw : w + (cz_rm M').slots ≤ (cz_rm M).slots) (hCon : Con X.2.1 M' (as) cn K N I R L (cz_ks X M (pc + 3) ls st (n + (cz_rm M').cells) (w + (cz_rm M').slots))) : Tr X M pc ls (as.reverse ++ st) cn K N I R L n w :=
  tr_callSN hd hlk hin hmy hrm hnp  hst hn hw hCon (fun r cn' K' N' I' R' L' h => by obtain ⟨x, rfl, hq⟩ := h; exact hq)
theorem tr_inSNv {M' : cz_M} {as : List Value} {ci np idx : Nat} {host : String} (hd : decode (cz_cc M) pc = .ok (.invokestatic idx, 3)) (hlk : (cz_on M.1, idx, cz_nm M', host) ∈ cz_NM) (hin : Cond.static (cz_nm M') ∈ cz_T) (hmy : cz_my M' ci np) (hrm : cz_room M M') (hnp : as.length = np)  (hst : (st.map fun v => v.category).sum ≤ 8) (hn : n + (cz_rm M').cells ≤ (cz_rm M).cells) (hw : w + (cz_rm M').slots ≤ (cz_rm M).slots) (hCon : Con X.2.1 M' (as) cn K N I R L (cz_kv X M (pc + 3) ls st (n + (cz_rm M').cells) (w + (cz_rm M').slots))) : Tr X M pc ls (as.reverse ++ st) cn K N I R L n w :=
  tr_callSN hd hlk hin hmy hrm hnp  hst hn hw hCon (fun r cn' K' N' I' R' L' h => by obtain ⟨rfl, hq⟩ := h; exact hq)
theorem tr_inIv {M' : cz_M} {as : List Value} {k ci np idx : Nat} (hd : decode (cz_cc M) pc = .ok (.invokespecial idx, 3)) (hlk : Cond.methodLink (cz_on M.1) idx (cz_nm M') ∈ cz_T) (hin : Cond.instanceMethod (cz_nm M') ∈ cz_T) (hnm : (cz_nm M').name = "<init>") (hrt : cz_rt M' = none) (hmy : cz_my M' ci np) (hrm : cz_room M M') (hnp : as.length = np)  (hst : (st.map fun v => v.category).sum ≤ 8) (hn : n + (cz_rm M').cells ≤ (cz_rm M).cells) (hw : w + (cz_rm M').slots ≤ (cz_rm M).slots) (hCon : Con X.2.1 M' (.ref k :: as) cn K N I R L (cz_kv X M (pc + 3) ls st (n + (cz_rm M').cells) (w + (cz_rm M').slots))) : Tr X M pc ls (as.reverse ++ .ref k :: st) cn K N I R L n w :=
  tr_callI hd hlk hin hnm hrt hmy hrm hnp  hst hn hw hCon (fun r cn' K' N' I' R' L' h => by obtain ⟨rfl, hq⟩ := h; exact hq)
theorem tr_inINv {M' : cz_M} {as : List Value} {k ci np idx : Nat} {host : String} (hd : decode (cz_cc M) pc = .ok (.invokespecial idx, 3)) (hlk : (cz_on M.1, idx, cz_nm M', host) ∈ cz_NM) (hin : Cond.instanceMethod (cz_nm M') ∈ cz_T) (hnm : (cz_nm M').name = "<init>") (hrt : cz_rt M' = none) (hmy : cz_my M' ci np) (hrm : cz_room M M') (hnp : as.length = np)  (hst : (st.map fun v => v.category).sum ≤ 8) (hn : n + (cz_rm M').cells ≤ (cz_rm M).cells) (hw : w + (cz_rm M').slots ≤ (cz_rm M).slots) (hCon : Con X.2.1 M' (.ref k :: as) cn K N I R L (cz_kv X M (pc + 3) ls st (n + (cz_rm M').cells) (w + (cz_rm M').slots))) : Tr X M pc ls (as.reverse ++ .ref k :: st) cn K N I R L n w :=
  tr_callIN hd hlk hin hnm hrt hmy hrm hnp  hst hn hw hCon (fun r cn' K' N' I' R' L' h => by obtain ⟨rfl, hq⟩ := h; exact hq)
/-! ===== the script ===== -/
def cz_scr : cz_X → Nat → (Nat → Int32) → Prop
  | (_, _, _, s, _, _, _, _, _, A, _, g), Ln, xs => va_X (cz_sa g 1000000) Ln xs s s.heap ∧ cz_sa g 1000000 < s.heap.size ∧ ¬ A (cz_sa g 1000000)
theorem tr_sld {Ln : Nat} {xs : Nat → Int32} {i : Int32} (hs : cz_scr X Ln xs) (hd : decode (cz_cc M) pc = .ok (.iaload, 1)) (hi : vp_in i Ln) (k : Tr X M (pc + 1) ls (.int (xs i.toNatClampNeg) :: st) cn K N I R L n w) : Tr X M pc ls (.int i :: .float 1000000 :: st) cn K N I R L n w := by
  obtain ⟨p, l, e, s, m, args, below, meth, c, A, Z, g⟩ := X
  intro hC H locs arr hR hS hl
  have hk := k hC H locs arr hR hS hl
  exact va_sld hC.1 hC.2.1 hs.1 hs.2.1 hs.2.2 hS hi hd hk
theorem tr_slen {Ln : Nat} {xs : Nat → Int32} (hs : cz_scr X Ln xs) (hd : decode (cz_cc M) pc = .ok (.arraylength, 1)) (k : Tr X M (pc + 1) ls (.int (Int32.ofNat Ln) :: st) cn K N I R L n w) : Tr X M pc ls (.float 1000000 :: st) cn K N I R L n w := by
  obtain ⟨p, l, e, s, m, args, below, meth, c, A, Z, g⟩ := X
  intro hC H locs arr hR hS hl
  have hk := k hC H locs arr hR hS hl
  exact va_slen hC.1 hC.2.1 hs.1 hs.2.1 hs.2.2 hS hd hk
end CzInl
theorem cz_not_lt {x y : Int32} (h : ¬ x < y) : y ≤ x := Int32.not_lt.mp h
theorem cz_not_le {x y : Int32} (h : ¬ x ≤ y) : y < x := Int32.not_le.mp h
theorem cz_anti {x y : Int32} (h1 : x ≤ y) (h2 : y ≤ x) : x = y := Int32.le_antisymm h1 h2
end
section
/-! ===== p1: a fresh object, one call ===== -/
/-- the class's cells, the reference's cells, as the constructors leave them -/
def cz_f1 (K N : Nat → Nat) (I : cz_I) (R : cz_R) : Prop := (∀ k v : Nat, k < 183 → kd0 k = v → K k = v) ∧ (∀ k v : Nat, k < 183 → ln0 k = v → N k = v) ∧ (∀ (k j : Nat) (x : Option Nat), (k < 183 ∧ j < (rfL.getD k []).length) → rf0 k j = x → R k j = x) ∧ (∀ k j : Nat, (k < 183 ∧ j < max (ln0 k) 36) → I k j = 0)
def cz_f2 (K N : Nat → Nat) (I : cz_I) (R : cz_R) : Prop := (∀ k v : Nat, (183 ≤ k ∧ k < 202) → kd0 k = v → K k = v) ∧ (∀ k v : Nat, (183 ≤ k ∧ k < 202) → ln0 k = v → N k = v) ∧ (∀ (k j : Nat) (x : Option Nat), (183 ≤ k ∧ k < 202 ∧ j < (rfL.getD k []).length) → rf0 k j = x → R k j = x) ∧ (∀ k j : Nat, (183 ≤ k ∧ k < 202 ∧ j < max (ln0 k) 36 ∧ ¬ (k = 183 ∧ j = 2)) → I k j = 0) ∧ I 183 2 = -1
def cz_szv (a : Int32) : Int32 := if a.toInt < 0 ∨ 12 < a.toInt then -1 else 0
theorem cz_outl {a : Int32} (h : a < 0) : a.toInt < 0 ∨ 12 < a.toInt := Or.inl (by have := Int32.lt_iff_toInt_lt.mp h; simpa using this)
theorem cz_t12 : ((12 : Int32)).toInt = 12 := by decide +kernel
theorem cz_outr {a : Int32} (h : 12 < a) : a.toInt < 0 ∨ 12 < a.toInt := by
  have h1 := Int32.lt_iff_toInt_lt.mp h
  rw [cz_t12] at h1
  exact Or.inr h1
theorem cz_outr11 {a : Int32} (h : 12 < a) : a.toInt < 0 ∨ 11 < a.toInt := by
  have h1 := Int32.lt_iff_toInt_lt.mp h
  rw [cz_t12] at h1
  omega
theorem cz_szl {a : Int32} (h : a < 0) : cz_szv a = -1 := if_pos (cz_outl h)
theorem cz_szr {a : Int32} (h : 12 < a) : cz_szv a = -1 := if_pos (cz_outr h)
theorem cz_sz13 (a : Int32) : a < 0 ∨ 12 < a ∨ a = 0 ∨ a = 1 ∨ a = 2 ∨ a = 3 ∨ a = 4 ∨ a = 5 ∨ a = 6 ∨ a = 7 ∨ a = 8 ∨ a = 9 ∨ a = 10 ∨ a = 11 ∨ a = 12 := by
  simp only [← Int32.toInt_inj, Int32.lt_iff_toInt_lt]
  have e0 : ((0 : Int32)).toInt = 0 := by decide +kernel
  have e1 : ((1 : Int32)).toInt = 1 := by decide +kernel
  have e2 : ((2 : Int32)).toInt = 2 := by decide +kernel
  have e3 : ((3 : Int32)).toInt = 3 := by decide +kernel
  have e4 : ((4 : Int32)).toInt = 4 := by decide +kernel
  have e5 : ((5 : Int32)).toInt = 5 := by decide +kernel
  have e6 : ((6 : Int32)).toInt = 6 := by decide +kernel
  have e7 : ((7 : Int32)).toInt = 7 := by decide +kernel
  have e8 : ((8 : Int32)).toInt = 8 := by decide +kernel
  have e9 : ((9 : Int32)).toInt = 9 := by decide +kernel
  have e10 : ((10 : Int32)).toInt = 10 := by decide +kernel
  have e11 : ((11 : Int32)).toInt = 11 := by decide +kernel
  have e12 := cz_t12
  omega
theorem dX10_awake_0 : decode cX10_awake 0 = .ok (.aload_n 0, 1) := by decide +kernel
theorem dX10_awake_1 : decode cX10_awake 1 = .ok (.iload_n 1, 1) := by decide +kernel
theorem dX10_awake_2 : decode cX10_awake 2 = .ok (.invokevirtual 152, 3) := by decide +kernel
theorem dX10_awake_5 : decode cX10_awake 5 = .ok (.ifCond .ne 9, 3) := by decide +kernel
theorem dX10_awake_8 : decode cX10_awake 8 = .ok (.aload_n 0, 1) := by decide +kernel
theorem dX10_awake_9 : decode cX10_awake 9 = .ok (.iconst 1, 1) := by decide +kernel
theorem dX10_awake_10 : decode cX10_awake 10 = .ok (.invokevirtual 79, 3) := by decide +kernel
theorem dX10_awake_13 : decode cX10_awake 13 = .ok (.ireturn, 1) := by decide +kernel
theorem dX10_back_0 : decode cX10_back 0 = .ok (.aload_n 0, 1) := by decide +kernel
theorem dX10_back_1 : decode cX10_back 1 = .ok (.getfield 42, 3) := by decide +kernel
theorem dX10_back_4 : decode cX10_back 4 = .ok (.aload_n 0, 1) := by decide +kernel
theorem dX10_back_5 : decode cX10_back 5 = .ok (.getfield 35, 3) := by decide +kernel
theorem dX10_back_8 : decode cX10_back 8 = .ok (.iload_n 1, 1) := by decide +kernel
theorem dX10_back_9 : decode cX10_back 9 = .ok (.invokevirtual 307, 3) := by decide +kernel
theorem dX10_back_12 : decode cX10_back 12 = .ok (.ifCond .ne 9, 3) := by decide +kernel
theorem dX10_back_15 : decode cX10_back 15 = .ok (.aload_n 0, 1) := by decide +kernel
theorem dX10_back_16 : decode cX10_back 16 = .ok (.iconst 1, 1) := by decide +kernel
theorem dX10_back_17 : decode cX10_back 17 = .ok (.invokevirtual 281, 3) := by decide +kernel
theorem dX10_back_20 : decode cX10_back 20 = .ok (.ireturn, 1) := by decide +kernel
theorem dX10_by_0 : decode cX10_by 0 = .ok (.aload_n 0, 1) := by decide +kernel
theorem dX10_by_1 : decode cX10_by 1 = .ok (.iload_n 1, 1) := by decide +kernel
theorem dX10_by_2 : decode cX10_by 2 = .ok (.invokevirtual 252, 3) := by decide +kernel
theorem dX10_by_5 : decode cX10_by 5 = .ok (.ifCond .ne 9, 3) := by decide +kernel
theorem dX10_by_8 : decode cX10_by 8 = .ok (.aload_n 0, 1) := by decide +kernel
theorem dX10_by_9 : decode cX10_by 9 = .ok (.iconst 1, 1) := by decide +kernel
theorem dX10_by_10 : decode cX10_by 10 = .ok (.invokevirtual 79, 3) := by decide +kernel
theorem dX10_by_13 : decode cX10_by 13 = .ok (.ireturn, 1) := by decide +kernel
theorem dX10_call_0 : decode cX10_call 0 = .ok (.iload_n 1, 1) := by decide +kernel
theorem dX10_call_1 : decode cX10_call 1 = .ok (.ifCond .lt 14, 3) := by decide +kernel
theorem dX10_call_4 : decode cX10_call 4 = .ok (.iload_n 1, 1) := by decide +kernel
theorem dX10_call_5 : decode cX10_call 5 = .ok (.aload_n 0, 1) := by decide +kernel
theorem dX10_call_6 : decode cX10_call 6 = .ok (.getfield 16, 3) := by decide +kernel
theorem dX10_call_9 : decode cX10_call 9 = .ok (.getfield 278, 3) := by decide +kernel
theorem dX10_call_12 : decode cX10_call 12 = .ok (.if_icmp .lt 9, 3) := by decide +kernel
theorem dX10_call_15 : decode cX10_call 15 = .ok (.aload_n 0, 1) := by decide +kernel
theorem dX10_call_16 : decode cX10_call 16 = .ok (.iconst 1, 1) := by decide +kernel
theorem dX10_call_17 : decode cX10_call 17 = .ok (.invokevirtual 281, 3) := by decide +kernel
theorem dX10_call_20 : decode cX10_call 20 = .ok (.ireturn, 1) := by decide +kernel
theorem dX10_calls_0 : decode cX10_calls 0 = .ok (.aload_n 0, 1) := by decide +kernel
theorem dX10_calls_1 : decode cX10_calls 1 = .ok (.getfield 95, 3) := by decide +kernel
theorem dX10_calls_4 : decode cX10_calls 4 = .ok (.ifCond .eq 17, 3) := by decide +kernel
theorem dX10_calls_21 : decode cX10_calls 21 = .ok (.aload_n 0, 1) := by decide +kernel
theorem dX10_calls_22 : decode cX10_calls 22 = .ok (.iconst 1, 1) := by decide +kernel
theorem dX10_calls_23 : decode cX10_calls 23 = .ok (.invokevirtual 79, 3) := by decide +kernel
theorem dX10_calls_26 : decode cX10_calls 26 = .ok (.ireturn, 1) := by decide +kernel
theorem dX10_cause_0 : decode cX10_cause 0 = .ok (.aload_n 0, 1) := by decide +kernel
theorem dX10_cause_1 : decode cX10_cause 1 = .ok (.iload_n 1, 1) := by decide +kernel
theorem dX10_cause_2 : decode cX10_cause 2 = .ok (.iload_n 2, 1) := by decide +kernel
theorem dX10_cause_3 : decode cX10_cause 3 = .ok (.invokevirtual 222, 3) := by decide +kernel
theorem dX10_cause_6 : decode cX10_cause 6 = .ok (.istore_n 3, 1) := by decide +kernel
theorem dX10_cause_7 : decode cX10_cause 7 = .ok (.iload_n 3, 1) := by decide +kernel
theorem dX10_cause_8 : decode cX10_cause 8 = .ok (.iconst (-1), 1) := by decide +kernel
theorem dX10_cause_9 : decode cX10_cause 9 = .ok (.if_icmp .ne 9, 3) := by decide +kernel
theorem dX10_cause_12 : decode cX10_cause 12 = .ok (.aload_n 0, 1) := by decide +kernel
theorem dX10_cause_13 : decode cX10_cause 13 = .ok (.iconst 1, 1) := by decide +kernel
theorem dX10_cause_14 : decode cX10_cause 14 = .ok (.invokevirtual 79, 3) := by decide +kernel
theorem dX10_cause_17 : decode cX10_cause 17 = .ok (.ireturn, 1) := by decide +kernel
theorem dX10_change_0 : decode cX10_change 0 = .ok (.aload_n 0, 1) := by decide +kernel
theorem dX10_change_1 : decode cX10_change 1 = .ok (.iload_n 1, 1) := by decide +kernel
theorem dX10_change_2 : decode cX10_change 2 = .ok (.invokevirtual 126, 3) := by decide +kernel
theorem dX10_change_5 : decode cX10_change 5 = .ok (.ifCond .ne 9, 3) := by decide +kernel
theorem dX10_change_8 : decode cX10_change 8 = .ok (.aload_n 0, 1) := by decide +kernel
theorem dX10_change_9 : decode cX10_change 9 = .ok (.iconst 1, 1) := by decide +kernel
theorem dX10_change_10 : decode cX10_change 10 = .ok (.invokevirtual 79, 3) := by decide +kernel
theorem dX10_change_13 : decode cX10_change 13 = .ok (.ireturn, 1) := by decide +kernel
theorem dX10_changes_0 : decode cX10_changes 0 = .ok (.aload_n 0, 1) := by decide +kernel
theorem dX10_changes_1 : decode cX10_changes 1 = .ok (.iload_n 1, 1) := by decide +kernel
theorem dX10_changes_2 : decode cX10_changes 2 = .ok (.invokevirtual 126, 3) := by decide +kernel
theorem dX10_changes_5 : decode cX10_changes 5 = .ok (.ifCond .ne 9, 3) := by decide +kernel
theorem dX10_changes_8 : decode cX10_changes 8 = .ok (.aload_n 0, 1) := by decide +kernel
theorem dX10_changes_9 : decode cX10_changes 9 = .ok (.iconst 1, 1) := by decide +kernel
theorem dX10_changes_10 : decode cX10_changes 10 = .ok (.invokevirtual 79, 3) := by decide +kernel
theorem dX10_changes_13 : decode cX10_changes 13 = .ok (.ireturn, 1) := by decide +kernel
theorem dX10_cheese_0 : decode cX10_cheese 0 = .ok (.aload_n 0, 1) := by decide +kernel
theorem dX10_cheese_1 : decode cX10_cheese 1 = .ok (.iload_n 1, 1) := by decide +kernel
theorem dX10_cheese_2 : decode cX10_cheese 2 = .ok (.invokevirtual 195, 3) := by decide +kernel
theorem dX10_cheese_5 : decode cX10_cheese 5 = .ok (.ifCond .ne 9, 3) := by decide +kernel
theorem dX10_cheese_8 : decode cX10_cheese 8 = .ok (.aload_n 0, 1) := by decide +kernel
theorem dX10_cheese_9 : decode cX10_cheese 9 = .ok (.iconst 1, 1) := by decide +kernel
theorem dX10_cheese_10 : decode cX10_cheese 10 = .ok (.invokevirtual 79, 3) := by decide +kernel
theorem dX10_cheese_13 : decode cX10_cheese 13 = .ok (.ireturn, 1) := by decide +kernel
theorem dX10_cloud_0 : decode cX10_cloud 0 = .ok (.aload_n 0, 1) := by decide +kernel
theorem dX10_cloud_1 : decode cX10_cloud 1 = .ok (.getfield 95, 3) := by decide +kernel
theorem dX10_cloud_4 : decode cX10_cloud 4 = .ok (.ifCond .ne 9, 3) := by decide +kernel
theorem dX10_cloud_7 : decode cX10_cloud 7 = .ok (.aload_n 0, 1) := by decide +kernel
theorem dX10_cloud_8 : decode cX10_cloud 8 = .ok (.iconst 1, 1) := by decide +kernel
theorem dX10_cloud_9 : decode cX10_cloud 9 = .ok (.invokevirtual 281, 3) := by decide +kernel
theorem dX10_cloud_12 : decode cX10_cloud 12 = .ok (.ireturn, 1) := by decide +kernel
theorem dX10_draw_0 : decode cX10_draw 0 = .ok (.aload_n 0, 1) := by decide +kernel
theorem dX10_draw_1 : decode cX10_draw 1 = .ok (.getfield 95, 3) := by decide +kernel
theorem dX10_draw_4 : decode cX10_draw 4 = .ok (.ifCond .ne 9, 3) := by decide +kernel
theorem dX10_draw_7 : decode cX10_draw 7 = .ok (.aload_n 0, 1) := by decide +kernel
theorem dX10_draw_8 : decode cX10_draw 8 = .ok (.iconst 1, 1) := by decide +kernel
theorem dX10_draw_9 : decode cX10_draw 9 = .ok (.invokevirtual 79, 3) := by decide +kernel
theorem dX10_draw_12 : decode cX10_draw 12 = .ok (.ireturn, 1) := by decide +kernel
theorem dX10_due_0 : decode cX10_due 0 = .ok (.aload_n 0, 1) := by decide +kernel
theorem dX10_due_1 : decode cX10_due 1 = .ok (.getfield 95, 3) := by decide +kernel
theorem dX10_due_4 : decode cX10_due 4 = .ok (.ifCond .ne 9, 3) := by decide +kernel
theorem dX10_due_7 : decode cX10_due 7 = .ok (.aload_n 0, 1) := by decide +kernel
theorem dX10_due_8 : decode cX10_due 8 = .ok (.iconst 1, 1) := by decide +kernel
theorem dX10_due_9 : decode cX10_due 9 = .ok (.invokevirtual 79, 3) := by decide +kernel
theorem dX10_due_12 : decode cX10_due 12 = .ok (.ireturn, 1) := by decide +kernel
theorem dX10_event_0 : decode cX10_event 0 = .ok (.aload_n 0, 1) := by decide +kernel
theorem dX10_event_1 : decode cX10_event 1 = .ok (.iload_n 1, 1) := by decide +kernel
theorem dX10_event_2 : decode cX10_event 2 = .ok (.invokevirtual 234, 3) := by decide +kernel
theorem dX10_event_5 : decode cX10_event 5 = .ok (.ifCond .ne 9, 3) := by decide +kernel
theorem dX10_event_8 : decode cX10_event 8 = .ok (.aload_n 0, 1) := by decide +kernel
theorem dX10_event_9 : decode cX10_event 9 = .ok (.iconst 1, 1) := by decide +kernel
theorem dX10_event_10 : decode cX10_event 10 = .ok (.invokevirtual 79, 3) := by decide +kernel
theorem dX10_event_13 : decode cX10_event 13 = .ok (.ireturn, 1) := by decide +kernel
theorem dX10_eventCount_0 : decode cX10_eventCount 0 = .ok (.aload_n 0, 1) := by decide +kernel
theorem dX10_eventCount_1 : decode cX10_eventCount 1 = .ok (.getfield 16, 3) := by decide +kernel
theorem dX10_eventCount_4 : decode cX10_eventCount 4 = .ok (.getfield 311, 3) := by decide +kernel
theorem dX10_eventCount_7 : decode cX10_eventCount 7 = .ok (.aload_n 0, 1) := by decide +kernel
theorem dX10_eventCount_8 : decode cX10_eventCount 8 = .ok (.getfield 35, 3) := by decide +kernel
theorem dX10_eventCount_11 : decode cX10_eventCount 11 = .ok (.getfield 272, 3) := by decide +kernel
theorem dX10_eventCount_14 : decode cX10_eventCount 14 = .ok (.iadd, 1) := by decide +kernel
theorem dX10_eventCount_15 : decode cX10_eventCount 15 = .ok (.ireturn, 1) := by decide +kernel
theorem dX10_fault_0 : decode cX10_fault 0 = .ok (.aload_n 0, 1) := by decide +kernel
theorem dX10_fault_1 : decode cX10_fault 1 = .ok (.getfield 90, 3) := by decide +kernel
theorem dX10_fault_4 : decode cX10_fault 4 = .ok (.ireturn, 1) := by decide +kernel
theorem dX10_feed_0 : decode cX10_feed 0 = .ok (.aload_n 0, 1) := by decide +kernel
theorem dX10_feed_1 : decode cX10_feed 1 = .ok (.getfield 71, 3) := by decide +kernel
theorem dX10_feed_4 : decode cX10_feed 4 = .ok (.bipush 20, 2) := by decide +kernel
theorem dX10_feed_6 : decode cX10_feed 6 = .ok (.iadd, 1) := by decide +kernel
theorem dX10_feed_7 : decode cX10_feed 7 = .ok (.sipush 900, 3) := by decide +kernel
theorem dX10_feed_10 : decode cX10_feed 10 = .ok (.if_icmp .le 5, 3) := by decide +kernel
theorem dX10_feed_15 : decode cX10_feed 15 = .ok (.aload_n 0, 1) := by decide +kernel
theorem dX10_feed_16 : decode cX10_feed 16 = .ok (.iload_n 1, 1) := by decide +kernel
theorem dX10_feed_17 : decode cX10_feed 17 = .ok (.invokevirtual 75, 3) := by decide +kernel
theorem dX10_feed_20 : decode cX10_feed 20 = .ok (.aload_n 0, 1) := by decide +kernel
theorem dX10_feed_21 : decode cX10_feed 21 = .ok (.iload_n 2, 1) := by decide +kernel
theorem dX10_feed_22 : decode cX10_feed 22 = .ok (.invokevirtual 75, 3) := by decide +kernel
theorem dX10_feed_25 : decode cX10_feed 25 = .ok (.aload_n 0, 1) := by decide +kernel
theorem dX10_feed_26 : decode cX10_feed 26 = .ok (.iload_n 3, 1) := by decide +kernel
theorem dX10_feed_27 : decode cX10_feed 27 = .ok (.invokevirtual 75, 3) := by decide +kernel
theorem dX10_feed_30 : decode cX10_feed 30 = .ok (.aload_n 0, 1) := by decide +kernel
theorem dX10_feed_31 : decode cX10_feed 31 = .ok (.iload 4, 2) := by decide +kernel
theorem dX10_feed_33 : decode cX10_feed 33 = .ok (.invokevirtual 75, 3) := by decide +kernel
theorem dX10_feed_36 : decode cX10_feed 36 = .ok (.aload_n 0, 1) := by decide +kernel
theorem dX10_feed_37 : decode cX10_feed 37 = .ok (.iload 5, 2) := by decide +kernel
theorem dX10_feed_39 : decode cX10_feed 39 = .ok (.invokevirtual 75, 3) := by decide +kernel
theorem dX10_feed_42 : decode cX10_feed 42 = .ok (.aload_n 0, 1) := by decide +kernel
theorem dX10_feed_43 : decode cX10_feed 43 = .ok (.getfield 71, 3) := by decide +kernel
theorem dX10_feed_46 : decode cX10_feed 46 = .ok (.ireturn, 1) := by decide +kernel
theorem dX10_fewest_0 : decode cX10_fewest 0 = .ok (.aload_n 0, 1) := by decide +kernel
theorem dX10_fewest_1 : decode cX10_fewest 1 = .ok (.getfield 95, 3) := by decide +kernel
theorem dX10_fewest_4 : decode cX10_fewest 4 = .ok (.ifCond .ne 9, 3) := by decide +kernel
theorem dX10_fewest_7 : decode cX10_fewest 7 = .ok (.aload_n 0, 1) := by decide +kernel
theorem dX10_fewest_8 : decode cX10_fewest 8 = .ok (.iconst 1, 1) := by decide +kernel
theorem dX10_fewest_9 : decode cX10_fewest 9 = .ok (.invokevirtual 79, 3) := by decide +kernel
theorem dX10_fewest_12 : decode cX10_fewest 12 = .ok (.ireturn, 1) := by decide +kernel
theorem dX10_fewestBy_0 : decode cX10_fewestBy 0 = .ok (.aload_n 0, 1) := by decide +kernel
theorem dX10_fewestBy_1 : decode cX10_fewestBy 1 = .ok (.getfield 95, 3) := by decide +kernel
theorem dX10_fewestBy_4 : decode cX10_fewestBy 4 = .ok (.ifCond .eq 14, 3) := by decide +kernel
theorem dX10_fewestBy_18 : decode cX10_fewestBy 18 = .ok (.aload_n 0, 1) := by decide +kernel
theorem dX10_fewestBy_19 : decode cX10_fewestBy 19 = .ok (.iconst 1, 1) := by decide +kernel
theorem dX10_fewestBy_20 : decode cX10_fewestBy 20 = .ok (.invokevirtual 79, 3) := by decide +kernel
theorem dX10_fewestBy_23 : decode cX10_fewestBy 23 = .ok (.ireturn, 1) := by decide +kernel
theorem dX10_fits_0 : decode cX10_fits 0 = .ok (.aload_n 0, 1) := by decide +kernel
theorem dX10_fits_1 : decode cX10_fits 1 = .ok (.iload_n 1, 1) := by decide +kernel
theorem dX10_fits_2 : decode cX10_fits 2 = .ok (.invokevirtual 252, 3) := by decide +kernel
theorem dX10_fits_5 : decode cX10_fits 5 = .ok (.ifCond .ne 9, 3) := by decide +kernel
theorem dX10_fits_8 : decode cX10_fits 8 = .ok (.aload_n 0, 1) := by decide +kernel
theorem dX10_fits_9 : decode cX10_fits 9 = .ok (.iconst 1, 1) := by decide +kernel
theorem dX10_fits_10 : decode cX10_fits 10 = .ok (.invokevirtual 79, 3) := by decide +kernel
theorem dX10_fits_13 : decode cX10_fits 13 = .ok (.ireturn, 1) := by decide +kernel
theorem dX10_isCheese_0 : decode cX10_isCheese 0 = .ok (.iload_n 1, 1) := by decide +kernel
theorem dX10_isCheese_1 : decode cX10_isCheese 1 = .ok (.ifCond .lt 18, 3) := by decide +kernel
theorem dX10_isCheese_4 : decode cX10_isCheese 4 = .ok (.iload_n 1, 1) := by decide +kernel
theorem dX10_isCheese_5 : decode cX10_isCheese 5 = .ok (.aload_n 0, 1) := by decide +kernel
theorem dX10_isCheese_6 : decode cX10_isCheese 6 = .ok (.getfield 16, 3) := by decide +kernel
theorem dX10_isCheese_9 : decode cX10_isCheese 9 = .ok (.getfield 106, 3) := by decide +kernel
theorem dX10_isCheese_12 : decode cX10_isCheese 12 = .ok (.if_icmp .ge 7, 3) := by decide +kernel
theorem dX10_isCheese_19 : decode cX10_isCheese 19 = .ok (.iconst 0, 1) := by decide +kernel
theorem dX10_isCheese_20 : decode cX10_isCheese 20 = .ok (.ireturn, 1) := by decide +kernel
theorem dX10_isEvent_0 : decode cX10_isEvent 0 = .ok (.iload_n 1, 1) := by decide +kernel
theorem dX10_isEvent_1 : decode cX10_isEvent 1 = .ok (.ifCond .lt 15, 3) := by decide +kernel
theorem dX10_isEvent_4 : decode cX10_isEvent 4 = .ok (.iload_n 1, 1) := by decide +kernel
theorem dX10_isEvent_5 : decode cX10_isEvent 5 = .ok (.aload_n 0, 1) := by decide +kernel
theorem dX10_isEvent_6 : decode cX10_isEvent 6 = .ok (.invokevirtual 225, 3) := by decide +kernel
theorem dX10_isEvent_9 : decode cX10_isEvent 9 = .ok (.if_icmp .ge 7, 3) := by decide +kernel
theorem dX10_isEvent_16 : decode cX10_isEvent 16 = .ok (.iconst 0, 1) := by decide +kernel
theorem dX10_isEvent_17 : decode cX10_isEvent 17 = .ok (.ireturn, 1) := by decide +kernel
theorem dX10_isHut_0 : decode cX10_isHut 0 = .ok (.iload_n 1, 1) := by decide +kernel
theorem dX10_isHut_1 : decode cX10_isHut 1 = .ok (.ifCond .lt 18, 3) := by decide +kernel
theorem dX10_isHut_4 : decode cX10_isHut 4 = .ok (.iload_n 1, 1) := by decide +kernel
theorem dX10_isHut_5 : decode cX10_isHut 5 = .ok (.aload_n 0, 1) := by decide +kernel
theorem dX10_isHut_6 : decode cX10_isHut 6 = .ok (.getfield 16, 3) := by decide +kernel
theorem dX10_isHut_9 : decode cX10_isHut 9 = .ok (.getfield 332, 3) := by decide +kernel
theorem dX10_isHut_12 : decode cX10_isHut 12 = .ok (.if_icmp .ge 7, 3) := by decide +kernel
theorem dX10_isHut_19 : decode cX10_isHut 19 = .ok (.iconst 0, 1) := by decide +kernel
theorem dX10_isHut_20 : decode cX10_isHut 20 = .ok (.ireturn, 1) := by decide +kernel
theorem dX10_isSlice_0 : decode cX10_isSlice 0 = .ok (.iload_n 1, 1) := by decide +kernel
theorem dX10_isSlice_1 : decode cX10_isSlice 1 = .ok (.ifCond .lt 18, 3) := by decide +kernel
theorem dX10_isSlice_4 : decode cX10_isSlice 4 = .ok (.iload_n 1, 1) := by decide +kernel
theorem dX10_isSlice_5 : decode cX10_isSlice 5 = .ok (.aload_n 0, 1) := by decide +kernel
theorem dX10_isSlice_6 : decode cX10_isSlice 6 = .ok (.getfield 16, 3) := by decide +kernel
theorem dX10_isSlice_9 : decode cX10_isSlice 9 = .ok (.getfield 338, 3) := by decide +kernel
theorem dX10_isSlice_12 : decode cX10_isSlice 12 = .ok (.if_icmp .ge 7, 3) := by decide +kernel
theorem dX10_isSlice_19 : decode cX10_isSlice 19 = .ok (.iconst 0, 1) := by decide +kernel
theorem dX10_isSlice_20 : decode cX10_isSlice 20 = .ok (.ireturn, 1) := by decide +kernel
theorem dX10_isTurner_0 : decode cX10_isTurner 0 = .ok (.iload_n 1, 1) := by decide +kernel
theorem dX10_isTurner_1 : decode cX10_isTurner 1 = .ok (.ifCond .lt 18, 3) := by decide +kernel
theorem dX10_isTurner_4 : decode cX10_isTurner 4 = .ok (.iload_n 1, 1) := by decide +kernel
theorem dX10_isTurner_5 : decode cX10_isTurner 5 = .ok (.aload_n 0, 1) := by decide +kernel
theorem dX10_isTurner_6 : decode cX10_isTurner 6 = .ok (.getfield 16, 3) := by decide +kernel
theorem dX10_isTurner_9 : decode cX10_isTurner 9 = .ok (.getfield 335, 3) := by decide +kernel
theorem dX10_isTurner_12 : decode cX10_isTurner 12 = .ok (.if_icmp .ge 7, 3) := by decide +kernel
theorem dX10_isTurner_19 : decode cX10_isTurner 19 = .ok (.iconst 0, 1) := by decide +kernel
theorem dX10_isTurner_20 : decode cX10_isTurner 20 = .ok (.ireturn, 1) := by decide +kernel
theorem dX10_lift_0 : decode cX10_lift 0 = .ok (.aload_n 0, 1) := by decide +kernel
theorem dX10_lift_1 : decode cX10_lift 1 = .ok (.getfield 35, 3) := by decide +kernel
theorem dX10_lift_4 : decode cX10_lift 4 = .ok (.getfield 272, 3) := by decide +kernel
theorem dX10_lift_7 : decode cX10_lift 7 = .ok (.ifCond .ne 10, 3) := by decide +kernel
theorem dX10_lift_10 : decode cX10_lift 10 = .ok (.aload_n 0, 1) := by decide +kernel
theorem dX10_lift_11 : decode cX10_lift 11 = .ok (.bipush 6, 2) := by decide +kernel
theorem dX10_lift_13 : decode cX10_lift 13 = .ok (.invokevirtual 281, 3) := by decide +kernel
theorem dX10_lift_16 : decode cX10_lift 16 = .ok (.ireturn, 1) := by decide +kernel
theorem dX10_light_0 : decode cX10_light 0 = .ok (.aload_n 0, 1) := by decide +kernel
theorem dX10_light_1 : decode cX10_light 1 = .ok (.iload_n 1, 1) := by decide +kernel
theorem dX10_light_2 : decode cX10_light 2 = .ok (.invokevirtual 126, 3) := by decide +kernel
theorem dX10_light_5 : decode cX10_light 5 = .ok (.ifCond .ne 9, 3) := by decide +kernel
theorem dX10_light_8 : decode cX10_light 8 = .ok (.aload_n 0, 1) := by decide +kernel
theorem dX10_light_9 : decode cX10_light 9 = .ok (.iconst 1, 1) := by decide +kernel
theorem dX10_light_10 : decode cX10_light 10 = .ok (.invokevirtual 79, 3) := by decide +kernel
theorem dX10_light_13 : decode cX10_light 13 = .ok (.ireturn, 1) := by decide +kernel
theorem dX10_mark_0 : decode cX10_mark 0 = .ok (.aload_n 0, 1) := by decide +kernel
theorem dX10_mark_1 : decode cX10_mark 1 = .ok (.getfield 95, 3) := by decide +kernel
theorem dX10_mark_4 : decode cX10_mark 4 = .ok (.ifCond .ne 9, 3) := by decide +kernel
theorem dX10_mark_7 : decode cX10_mark 7 = .ok (.aload_n 0, 1) := by decide +kernel
theorem dX10_mark_8 : decode cX10_mark 8 = .ok (.iconst 1, 1) := by decide +kernel
theorem dX10_mark_9 : decode cX10_mark 9 = .ok (.invokevirtual 79, 3) := by decide +kernel
theorem dX10_mark_12 : decode cX10_mark 12 = .ok (.ireturn, 1) := by decide +kernel
theorem dX10_nights_0 : decode cX10_nights 0 = .ok (.aload_n 0, 1) := by decide +kernel
theorem dX10_nights_1 : decode cX10_nights 1 = .ok (.getfield 95, 3) := by decide +kernel
theorem dX10_nights_4 : decode cX10_nights 4 = .ok (.ifCond .ne 9, 3) := by decide +kernel
theorem dX10_nights_7 : decode cX10_nights 7 = .ok (.aload_n 0, 1) := by decide +kernel
theorem dX10_nights_8 : decode cX10_nights 8 = .ok (.iconst 1, 1) := by decide +kernel
theorem dX10_nights_9 : decode cX10_nights 9 = .ok (.invokevirtual 178, 3) := by decide +kernel
theorem dX10_nights_12 : decode cX10_nights 12 = .ok (.ireturn, 1) := by decide +kernel
theorem dX10_notices_0 : decode cX10_notices 0 = .ok (.aload_n 0, 1) := by decide +kernel
theorem dX10_notices_1 : decode cX10_notices 1 = .ok (.iload_n 1, 1) := by decide +kernel
theorem dX10_notices_2 : decode cX10_notices 2 = .ok (.invokevirtual 152, 3) := by decide +kernel
theorem dX10_notices_5 : decode cX10_notices 5 = .ok (.ifCond .eq 11, 3) := by decide +kernel
theorem dX10_notices_16 : decode cX10_notices 16 = .ok (.aload_n 0, 1) := by decide +kernel
theorem dX10_notices_17 : decode cX10_notices 17 = .ok (.iconst 1, 1) := by decide +kernel
theorem dX10_notices_18 : decode cX10_notices 18 = .ok (.invokevirtual 79, 3) := by decide +kernel
theorem dX10_notices_21 : decode cX10_notices 21 = .ok (.ireturn, 1) := by decide +kernel
theorem dX10_peak_0 : decode cX10_peak 0 = .ok (.aload_n 0, 1) := by decide +kernel
theorem dX10_peak_1 : decode cX10_peak 1 = .ok (.getfield 95, 3) := by decide +kernel
theorem dX10_peak_4 : decode cX10_peak 4 = .ok (.ifCond .ne 9, 3) := by decide +kernel
theorem dX10_peak_7 : decode cX10_peak 7 = .ok (.aload_n 0, 1) := by decide +kernel
theorem dX10_peak_8 : decode cX10_peak 8 = .ok (.iconst 1, 1) := by decide +kernel
theorem dX10_peak_9 : decode cX10_peak 9 = .ok (.invokevirtual 79, 3) := by decide +kernel
theorem dX10_peak_12 : decode cX10_peak 12 = .ok (.ireturn, 1) := by decide +kernel
theorem dX10_putBytes_0 : decode cX10_putBytes 0 = .ok (.bipush 24, 2) := by decide +kernel
theorem dX10_putBytes_2 : decode cX10_putBytes 2 = .ok (.istore_n 2, 1) := by decide +kernel
theorem dX10_putBytes_3 : decode cX10_putBytes 3 = .ok (.iload_n 2, 1) := by decide +kernel
theorem dX10_putBytes_4 : decode cX10_putBytes 4 = .ok (.ifCond .lt 32, 3) := by decide +kernel
theorem dX10_putBytes_7 : decode cX10_putBytes 7 = .ok (.aload_n 0, 1) := by decide +kernel
theorem dX10_putBytes_8 : decode cX10_putBytes 8 = .ok (.getfield 9, 3) := by decide +kernel
theorem dX10_putBytes_11 : decode cX10_putBytes 11 = .ok (.aload_n 0, 1) := by decide +kernel
theorem dX10_putBytes_12 : decode cX10_putBytes 12 = .ok (.getfield 71, 3) := by decide +kernel
theorem dX10_putBytes_15 : decode cX10_putBytes 15 = .ok (.iload_n 1, 1) := by decide +kernel
theorem dX10_putBytes_16 : decode cX10_putBytes 16 = .ok (.iload_n 2, 1) := by decide +kernel
theorem dX10_putBytes_17 : decode cX10_putBytes 17 = .ok (.ishr, 1) := by decide +kernel
theorem dX10_putBytes_18 : decode cX10_putBytes 18 = .ok (.i2b, 1) := by decide +kernel
theorem dX10_putBytes_19 : decode cX10_putBytes 19 = .ok (.bastore, 1) := by decide +kernel
theorem dX10_putBytes_20 : decode cX10_putBytes 20 = .ok (.aload_n 0, 1) := by decide +kernel
theorem dX10_putBytes_21 : decode cX10_putBytes 21 = .ok (.dup, 1) := by decide +kernel
theorem dX10_putBytes_22 : decode cX10_putBytes 22 = .ok (.getfield 71, 3) := by decide +kernel
theorem dX10_putBytes_25 : decode cX10_putBytes 25 = .ok (.iconst 1, 1) := by decide +kernel
theorem dX10_putBytes_26 : decode cX10_putBytes 26 = .ok (.iadd, 1) := by decide +kernel
theorem dX10_putBytes_27 : decode cX10_putBytes 27 = .ok (.putfield 71, 3) := by decide +kernel
theorem dX10_putBytes_30 : decode cX10_putBytes 30 = .ok (.iinc 2 (-8), 3) := by decide +kernel
theorem dX10_putBytes_33 : decode cX10_putBytes 33 = .ok (.goto (-30), 3) := by decide +kernel
theorem dX10_putBytes_36 : decode cX10_putBytes 36 = .ok (.return_, 1) := by decide +kernel
theorem dX10_refused_0 : decode cX10_refused 0 = .ok (.aload_n 0, 1) := by decide +kernel
theorem dX10_refused_1 : decode cX10_refused 1 = .ok (.iload_n 1, 1) := by decide +kernel
theorem dX10_refused_2 : decode cX10_refused 2 = .ok (.putfield 112, 3) := by decide +kernel
theorem dX10_refused_5 : decode cX10_refused 5 = .ok (.iconst (-1), 1) := by decide +kernel
theorem dX10_refused_6 : decode cX10_refused 6 = .ok (.ireturn, 1) := by decide +kernel
theorem dX10_refusedAct_0 : decode cX10_refusedAct 0 = .ok (.aload_n 0, 1) := by decide +kernel
theorem dX10_refusedAct_1 : decode cX10_refusedAct 1 = .ok (.iload_n 1, 1) := by decide +kernel
theorem dX10_refusedAct_2 : decode cX10_refusedAct 2 = .ok (.putfield 112, 3) := by decide +kernel
theorem dX10_refusedAct_5 : decode cX10_refusedAct 5 = .ok (.iconst 0, 1) := by decide +kernel
theorem dX10_refusedAct_6 : decode cX10_refusedAct 6 = .ok (.ireturn, 1) := by decide +kernel
theorem dX10_refusedTotal_0 : decode cX10_refusedTotal 0 = .ok (.aload_n 0, 1) := by decide +kernel
theorem dX10_refusedTotal_1 : decode cX10_refusedTotal 1 = .ok (.iload_n 1, 1) := by decide +kernel
theorem dX10_refusedTotal_2 : decode cX10_refusedTotal 2 = .ok (.putfield 112, 3) := by decide +kernel
theorem dX10_refusedTotal_5 : decode cX10_refusedTotal 5 = .ok (.ldc_w 356, 3) := by decide +kernel
theorem dX10_refusedTotal_8 : decode cX10_refusedTotal 8 = .ok (.ireturn, 1) := by decide +kernel
theorem dX10_seed_0 : decode cX10_seed 0 = .ok (.aload_n 0, 1) := by decide +kernel
theorem dX10_seed_1 : decode cX10_seed 1 = .ok (.getfield 95, 3) := by decide +kernel
theorem dX10_seed_4 : decode cX10_seed 4 = .ok (.ifCond .ne 9, 3) := by decide +kernel
theorem dX10_seed_7 : decode cX10_seed 7 = .ok (.aload_n 0, 1) := by decide +kernel
theorem dX10_seed_8 : decode cX10_seed 8 = .ok (.iconst 1, 1) := by decide +kernel
theorem dX10_seed_9 : decode cX10_seed 9 = .ok (.invokevirtual 281, 3) := by decide +kernel
theorem dX10_seed_12 : decode cX10_seed 12 = .ok (.ireturn, 1) := by decide +kernel
theorem dX10_size_0 : decode cX10_size 0 = .ok (.iload_n 1, 1) := by decide +kernel
theorem dX10_size_1 : decode cX10_size 1 = .ok (.tableswitch 171 0 12 #[67, 75, 83, 91, 99, 107, 115, 123, 131, 142, 150, 158, 166], 67) := by decide +kernel
theorem dX10_size_68 : decode cX10_size 68 = .ok (.aload_n 0, 1) := by decide +kernel
theorem dX10_size_69 : decode cX10_size 69 = .ok (.getfield 16, 3) := by decide +kernel
theorem dX10_size_72 : decode cX10_size 72 = .ok (.getfield 146, 3) := by decide +kernel
theorem dX10_size_75 : decode cX10_size 75 = .ok (.ireturn, 1) := by decide +kernel
theorem dX10_size_76 : decode cX10_size 76 = .ok (.aload_n 0, 1) := by decide +kernel
theorem dX10_size_77 : decode cX10_size 77 = .ok (.getfield 16, 3) := by decide +kernel
theorem dX10_size_80 : decode cX10_size 80 = .ok (.getfield 332, 3) := by decide +kernel
theorem dX10_size_83 : decode cX10_size 83 = .ok (.ireturn, 1) := by decide +kernel
theorem dX10_size_84 : decode cX10_size 84 = .ok (.aload_n 0, 1) := by decide +kernel
theorem dX10_size_85 : decode cX10_size 85 = .ok (.getfield 16, 3) := by decide +kernel
theorem dX10_size_88 : decode cX10_size 88 = .ok (.getfield 311, 3) := by decide +kernel
theorem dX10_size_91 : decode cX10_size 91 = .ok (.ireturn, 1) := by decide +kernel
theorem dX10_size_92 : decode cX10_size 92 = .ok (.aload_n 0, 1) := by decide +kernel
theorem dX10_size_93 : decode cX10_size 93 = .ok (.getfield 35, 3) := by decide +kernel
theorem dX10_size_96 : decode cX10_size 96 = .ok (.getfield 272, 3) := by decide +kernel
theorem dX10_size_99 : decode cX10_size 99 = .ok (.ireturn, 1) := by decide +kernel
theorem dX10_size_100 : decode cX10_size 100 = .ok (.aload_n 0, 1) := by decide +kernel
theorem dX10_size_101 : decode cX10_size 101 = .ok (.getfield 16, 3) := by decide +kernel
theorem dX10_size_104 : decode cX10_size 104 = .ok (.getfield 106, 3) := by decide +kernel
theorem dX10_size_107 : decode cX10_size 107 = .ok (.ireturn, 1) := by decide +kernel
theorem dX10_size_108 : decode cX10_size 108 = .ok (.aload_n 0, 1) := by decide +kernel
theorem dX10_size_109 : decode cX10_size 109 = .ok (.getfield 16, 3) := by decide +kernel
theorem dX10_size_112 : decode cX10_size 112 = .ok (.getfield 335, 3) := by decide +kernel
theorem dX10_size_115 : decode cX10_size 115 = .ok (.ireturn, 1) := by decide +kernel
theorem dX10_size_116 : decode cX10_size 116 = .ok (.aload_n 0, 1) := by decide +kernel
theorem dX10_size_117 : decode cX10_size 117 = .ok (.getfield 16, 3) := by decide +kernel
theorem dX10_size_120 : decode cX10_size 120 = .ok (.getfield 278, 3) := by decide +kernel
theorem dX10_size_123 : decode cX10_size 123 = .ok (.ireturn, 1) := by decide +kernel
theorem dX10_size_124 : decode cX10_size 124 = .ok (.aload_n 0, 1) := by decide +kernel
theorem dX10_size_125 : decode cX10_size 125 = .ok (.getfield 16, 3) := by decide +kernel
theorem dX10_size_128 : decode cX10_size 128 = .ok (.getfield 338, 3) := by decide +kernel
theorem dX10_size_131 : decode cX10_size 131 = .ok (.ireturn, 1) := by decide +kernel
theorem dX10_size_132 : decode cX10_size 132 = .ok (.aload_n 0, 1) := by decide +kernel
theorem dX10_size_133 : decode cX10_size 133 = .ok (.getfield 16, 3) := by decide +kernel
theorem dX10_size_136 : decode cX10_size 136 = .ok (.getfield 341, 3) := by decide +kernel
theorem dX10_size_139 : decode cX10_size 139 = .ok (.getfield 345, 3) := by decide +kernel
theorem dX10_size_142 : decode cX10_size 142 = .ok (.ireturn, 1) := by decide +kernel
theorem dX10_size_143 : decode cX10_size 143 = .ok (.aload_n 0, 1) := by decide +kernel
theorem dX10_size_144 : decode cX10_size 144 = .ok (.getfield 35, 3) := by decide +kernel
theorem dX10_size_147 : decode cX10_size 147 = .ok (.getfield 269, 3) := by decide +kernel
theorem dX10_size_150 : decode cX10_size 150 = .ok (.ireturn, 1) := by decide +kernel
theorem dX10_size_151 : decode cX10_size 151 = .ok (.aload_n 0, 1) := by decide +kernel
theorem dX10_size_152 : decode cX10_size 152 = .ok (.getfield 42, 3) := by decide +kernel
theorem dX10_size_155 : decode cX10_size 155 = .ok (.getfield 350, 3) := by decide +kernel
theorem dX10_size_158 : decode cX10_size 158 = .ok (.ireturn, 1) := by decide +kernel
theorem dX10_size_159 : decode cX10_size 159 = .ok (.aload_n 0, 1) := by decide +kernel
theorem dX10_size_160 : decode cX10_size 160 = .ok (.getfield 42, 3) := by decide +kernel
theorem dX10_size_163 : decode cX10_size 163 = .ok (.getfield 353, 3) := by decide +kernel
theorem dX10_size_166 : decode cX10_size 166 = .ok (.ireturn, 1) := by decide +kernel
theorem dX10_size_167 : decode cX10_size 167 = .ok (.aload_n 0, 1) := by decide +kernel
theorem dX10_size_168 : decode cX10_size 168 = .ok (.getfield 71, 3) := by decide +kernel
theorem dX10_size_171 : decode cX10_size 171 = .ok (.ireturn, 1) := by decide +kernel
theorem dX10_size_172 : decode cX10_size 172 = .ok (.iconst (-1), 1) := by decide +kernel
theorem dX10_size_173 : decode cX10_size 173 = .ok (.ireturn, 1) := by decide +kernel
theorem dX10_sky_0 : decode cX10_sky 0 = .ok (.aload_n 0, 1) := by decide +kernel
theorem dX10_sky_1 : decode cX10_sky 1 = .ok (.getfield 95, 3) := by decide +kernel
theorem dX10_sky_4 : decode cX10_sky 4 = .ok (.ifCond .ne 9, 3) := by decide +kernel
theorem dX10_sky_7 : decode cX10_sky 7 = .ok (.aload_n 0, 1) := by decide +kernel
theorem dX10_sky_8 : decode cX10_sky 8 = .ok (.iconst 1, 1) := by decide +kernel
theorem dX10_sky_9 : decode cX10_sky 9 = .ok (.invokevirtual 79, 3) := by decide +kernel
theorem dX10_sky_12 : decode cX10_sky 12 = .ok (.ireturn, 1) := by decide +kernel
theorem dX10_total_0 : decode cX10_total 0 = .ok (.aload_n 0, 1) := by decide +kernel
theorem dX10_total_1 : decode cX10_total 1 = .ok (.getfield 95, 3) := by decide +kernel
theorem dX10_total_4 : decode cX10_total 4 = .ok (.ifCond .eq 17, 3) := by decide +kernel
theorem dX10_total_21 : decode cX10_total 21 = .ok (.aload_n 0, 1) := by decide +kernel
theorem dX10_total_22 : decode cX10_total 22 = .ok (.iconst 1, 1) := by decide +kernel
theorem dX10_total_23 : decode cX10_total 23 = .ok (.invokevirtual 178, 3) := by decide +kernel
theorem dX10_total_26 : decode cX10_total 26 = .ok (.ireturn, 1) := by decide +kernel
theorem dX10_trouble_0 : decode cX10_trouble 0 = .ok (.aload_n 0, 1) := by decide +kernel
theorem dX10_trouble_1 : decode cX10_trouble 1 = .ok (.getfield 112, 3) := by decide +kernel
theorem dX10_trouble_4 : decode cX10_trouble 4 = .ok (.ireturn, 1) := by decide +kernel
theorem dX10_turned_0 : decode cX10_turned 0 = .ok (.aload_n 0, 1) := by decide +kernel
theorem dX10_turned_1 : decode cX10_turned 1 = .ok (.iload_n 1, 1) := by decide +kernel
theorem dX10_turned_2 : decode cX10_turned 2 = .ok (.invokevirtual 195, 3) := by decide +kernel
theorem dX10_turned_5 : decode cX10_turned 5 = .ok (.ifCond .ne 9, 3) := by decide +kernel
theorem dX10_turned_8 : decode cX10_turned 8 = .ok (.aload_n 0, 1) := by decide +kernel
theorem dX10_turned_9 : decode cX10_turned 9 = .ok (.iconst 1, 1) := by decide +kernel
theorem dX10_turned_10 : decode cX10_turned 10 = .ok (.invokevirtual 79, 3) := by decide +kernel
theorem dX10_turned_13 : decode cX10_turned 13 = .ok (.ireturn, 1) := by decide +kernel
theorem dX10_undo_0 : decode cX10_undo 0 = .ok (.aload_n 0, 1) := by decide +kernel
theorem dX10_undo_1 : decode cX10_undo 1 = .ok (.getfield 42, 3) := by decide +kernel
theorem dX10_undo_4 : decode cX10_undo 4 = .ok (.aload_n 0, 1) := by decide +kernel
theorem dX10_undo_5 : decode cX10_undo 5 = .ok (.getfield 35, 3) := by decide +kernel
theorem dX10_undo_8 : decode cX10_undo 8 = .ok (.invokevirtual 299, 3) := by decide +kernel
theorem dX10_undo_11 : decode cX10_undo 11 = .ok (.ifCond .ne 10, 3) := by decide +kernel
theorem dX10_undo_14 : decode cX10_undo 14 = .ok (.aload_n 0, 1) := by decide +kernel
theorem dX10_undo_15 : decode cX10_undo 15 = .ok (.bipush 6, 2) := by decide +kernel
theorem dX10_undo_17 : decode cX10_undo 17 = .ok (.invokevirtual 281, 3) := by decide +kernel
theorem dX10_undo_20 : decode cX10_undo 20 = .ok (.ireturn, 1) := by decide +kernel
theorem dX10_up_0 : decode cX10_up 0 = .ok (.aload_n 0, 1) := by decide +kernel
theorem dX10_up_1 : decode cX10_up 1 = .ok (.iload_n 1, 1) := by decide +kernel
theorem dX10_up_2 : decode cX10_up 2 = .ok (.invokevirtual 195, 3) := by decide +kernel
theorem dX10_up_5 : decode cX10_up 5 = .ok (.ifCond .ne 9, 3) := by decide +kernel
theorem dX10_up_8 : decode cX10_up 8 = .ok (.aload_n 0, 1) := by decide +kernel
theorem dX10_up_9 : decode cX10_up 9 = .ok (.iconst 1, 1) := by decide +kernel
theorem dX10_up_10 : decode cX10_up 10 = .ok (.invokevirtual 79, 3) := by decide +kernel
theorem dX10_up_13 : decode cX10_up 13 = .ok (.ireturn, 1) := by decide +kernel
theorem dX10_vein_0 : decode cX10_vein 0 = .ok (.aload_n 0, 1) := by decide +kernel
theorem dX10_vein_1 : decode cX10_vein 1 = .ok (.iload_n 1, 1) := by decide +kernel
theorem dX10_vein_2 : decode cX10_vein 2 = .ok (.iload_n 2, 1) := by decide +kernel
theorem dX10_vein_3 : decode cX10_vein 3 = .ok (.invokevirtual 222, 3) := by decide +kernel
theorem dX10_vein_6 : decode cX10_vein 6 = .ok (.istore_n 3, 1) := by decide +kernel
theorem dX10_vein_7 : decode cX10_vein 7 = .ok (.iload_n 3, 1) := by decide +kernel
theorem dX10_vein_8 : decode cX10_vein 8 = .ok (.iconst (-1), 1) := by decide +kernel
theorem dX10_vein_9 : decode cX10_vein 9 = .ok (.if_icmp .ne 11, 3) := by decide +kernel
theorem dX10_vein_12 : decode cX10_vein 12 = .ok (.aload_n 0, 1) := by decide +kernel
theorem dX10_vein_13 : decode cX10_vein 13 = .ok (.iconst 1, 1) := by decide +kernel
theorem dX10_vein_14 : decode cX10_vein 14 = .ok (.invokevirtual 79, 3) := by decide +kernel
theorem dX10_vein_17 : decode cX10_vein 17 = .ok (.goto 8, 3) := by decide +kernel
theorem dX10_vein_25 : decode cX10_vein 25 = .ok (.ireturn, 1) := by decide +kernel
theorem dX10_veinMinute_0 : decode cX10_veinMinute 0 = .ok (.aload_n 0, 1) := by decide +kernel
theorem dX10_veinMinute_1 : decode cX10_veinMinute 1 = .ok (.iload_n 1, 1) := by decide +kernel
theorem dX10_veinMinute_2 : decode cX10_veinMinute 2 = .ok (.invokevirtual 195, 3) := by decide +kernel
theorem dX10_veinMinute_5 : decode cX10_veinMinute 5 = .ok (.ifCond .eq 15, 3) := by decide +kernel
theorem dX10_veinMinute_20 : decode cX10_veinMinute 20 = .ok (.iconst (-1), 1) := by decide +kernel
theorem dX10_veinMinute_21 : decode cX10_veinMinute 21 = .ok (.ireturn, 1) := by decide +kernel
theorem dX10_wake_0 : decode cX10_wake 0 = .ok (.aload_n 0, 1) := by decide +kernel
theorem dX10_wake_1 : decode cX10_wake 1 = .ok (.getfield 95, 3) := by decide +kernel
theorem dX10_wake_4 : decode cX10_wake 4 = .ok (.ifCond .eq 14, 3) := by decide +kernel
theorem dX10_wake_18 : decode cX10_wake 18 = .ok (.aload_n 0, 1) := by decide +kernel
theorem dX10_wake_19 : decode cX10_wake 19 = .ok (.iconst 1, 1) := by decide +kernel
theorem dX10_wake_20 : decode cX10_wake 20 = .ok (.invokevirtual 79, 3) := by decide +kernel
theorem dX10_wake_23 : decode cX10_wake 23 = .ok (.ireturn, 1) := by decide +kernel
theorem dX10_wakeTotal_0 : decode cX10_wakeTotal 0 = .ok (.aload_n 0, 1) := by decide +kernel
theorem dX10_wakeTotal_1 : decode cX10_wakeTotal 1 = .ok (.getfield 95, 3) := by decide +kernel
theorem dX10_wakeTotal_4 : decode cX10_wakeTotal 4 = .ok (.ifCond .ne 9, 3) := by decide +kernel
theorem dX10_wakeTotal_7 : decode cX10_wakeTotal 7 = .ok (.aload_n 0, 1) := by decide +kernel
theorem dX10_wakeTotal_8 : decode cX10_wakeTotal 8 = .ok (.iconst 1, 1) := by decide +kernel
theorem dX10_wakeTotal_9 : decode cX10_wakeTotal 9 = .ok (.invokevirtual 178, 3) := by decide +kernel
theorem dX10_wakeTotal_12 : decode cX10_wakeTotal 12 = .ok (.ireturn, 1) := by decide +kernel
theorem dX10_where_0 : decode cX10_where 0 = .ok (.aload_n 0, 1) := by decide +kernel
theorem dX10_where_1 : decode cX10_where 1 = .ok (.getfield 112, 3) := by decide +kernel
theorem dX10_where_4 : decode cX10_where 4 = .ok (.iconst 4, 1) := by decide +kernel
theorem dX10_where_5 : decode cX10_where 5 = .ok (.if_icmp .ne 10, 3) := by decide +kernel
theorem dX10_where_15 : decode cX10_where 15 = .ok (.iconst (-1), 1) := by decide +kernel
theorem dX10_where_16 : decode cX10_where 16 = .ok (.ireturn, 1) := by decide +kernel
theorem dX10_without_0 : decode cX10_without 0 = .ok (.aload_n 0, 1) := by decide +kernel
theorem dX10_without_1 : decode cX10_without 1 = .ok (.iload_n 1, 1) := by decide +kernel
theorem dX10_without_2 : decode cX10_without 2 = .ok (.invokevirtual 234, 3) := by decide +kernel
theorem dX10_without_5 : decode cX10_without 5 = .ok (.ifCond .ne 9, 3) := by decide +kernel
theorem dX10_without_8 : decode cX10_without 8 = .ok (.aload_n 0, 1) := by decide +kernel
theorem dX10_without_9 : decode cX10_without 9 = .ok (.iconst 1, 1) := by decide +kernel
theorem dX10_without_10 : decode cX10_without 10 = .ok (.invokevirtual 178, 3) := by decide +kernel
theorem dX10_without_13 : decode cX10_without 13 = .ok (.ireturn, 1) := by decide +kernel
theorem dX10_work_0 : decode cX10_work 0 = .ok (.aload_n 0, 1) := by decide +kernel
theorem dX10_work_1 : decode cX10_work 1 = .ok (.iload_n 1, 1) := by decide +kernel
theorem dX10_work_2 : decode cX10_work 2 = .ok (.invokevirtual 152, 3) := by decide +kernel
theorem dX10_work_5 : decode cX10_work 5 = .ok (.ifCond .ne 9, 3) := by decide +kernel
theorem dX10_work_8 : decode cX10_work 8 = .ok (.aload_n 0, 1) := by decide +kernel
theorem dX10_work_9 : decode cX10_work 9 = .ok (.iconst 1, 1) := by decide +kernel
theorem dX10_work_10 : decode cX10_work 10 = .ok (.invokevirtual 79, 3) := by decide +kernel
theorem dX10_work_13 : decode cX10_work 13 = .ok (.ireturn, 1) := by decide +kernel
theorem dX10_worth_0 : decode cX10_worth 0 = .ok (.aload_n 0, 1) := by decide +kernel
theorem dX10_worth_1 : decode cX10_worth 1 = .ok (.iload_n 1, 1) := by decide +kernel
theorem dX10_worth_2 : decode cX10_worth 2 = .ok (.invokevirtual 152, 3) := by decide +kernel
theorem dX10_worth_5 : decode cX10_worth 5 = .ok (.ifCond .ne 9, 3) := by decide +kernel
theorem dX10_worth_8 : decode cX10_worth 8 = .ok (.aload_n 0, 1) := by decide +kernel
theorem dX10_worth_9 : decode cX10_worth 9 = .ok (.iconst 1, 1) := by decide +kernel
theorem dX10_worth_10 : decode cX10_worth 10 = .ok (.invokevirtual 178, 3) := by decide +kernel
theorem dX10_worth_13 : decode cX10_worth 13 = .ok (.ireturn, 1) := by decide +kernel
theorem dX12_awake_0 : decode cX12_awake 0 = .ok (.aload_n 0, 1) := by decide +kernel
theorem dX12_awake_1 : decode cX12_awake 1 = .ok (.iconst 0, 1) := by decide +kernel
theorem dX12_awake_2 : decode cX12_awake 2 = .ok (.putfield 70, 3) := by decide +kernel
theorem dX12_awake_5 : decode cX12_awake 5 = .ok (.aload_n 0, 1) := by decide +kernel
theorem dX12_awake_6 : decode cX12_awake 6 = .ok (.iload_n 1, 1) := by decide +kernel
theorem dX12_awake_7 : decode cX12_awake 7 = .ok (.invokevirtual 452, 3) := by decide +kernel
theorem dX12_awake_10 : decode cX12_awake 10 = .ok (.ifCond .ne 9, 3) := by decide +kernel
theorem dX12_awake_13 : decode cX12_awake 13 = .ok (.aload_n 0, 1) := by decide +kernel
theorem dX12_awake_14 : decode cX12_awake 14 = .ok (.iconst 1, 1) := by decide +kernel
theorem dX12_awake_15 : decode cX12_awake 15 = .ok (.invokevirtual 76, 3) := by decide +kernel
theorem dX12_awake_18 : decode cX12_awake 18 = .ok (.ireturn, 1) := by decide +kernel
theorem dX12_back_0 : decode cX12_back 0 = .ok (.aload_n 0, 1) := by decide +kernel
theorem dX12_back_1 : decode cX12_back 1 = .ok (.iconst 0, 1) := by decide +kernel
theorem dX12_back_2 : decode cX12_back 2 = .ok (.putfield 70, 3) := by decide +kernel
theorem dX12_back_5 : decode cX12_back 5 = .ok (.aload_n 0, 1) := by decide +kernel
theorem dX12_back_6 : decode cX12_back 6 = .ok (.getfield 385, 3) := by decide +kernel
theorem dX12_back_9 : decode cX12_back 9 = .ok (.ifnull 15, 3) := by decide +kernel
theorem dX12_back_24 : decode cX12_back 24 = .ok (.aload_n 0, 1) := by decide +kernel
theorem dX12_back_25 : decode cX12_back 25 = .ok (.iconst 1, 1) := by decide +kernel
theorem dX12_back_26 : decode cX12_back 26 = .ok (.invokevirtual 507, 3) := by decide +kernel
theorem dX12_back_29 : decode cX12_back 29 = .ok (.ireturn, 1) := by decide +kernel
theorem dX12_by_0 : decode cX12_by 0 = .ok (.aload_n 0, 1) := by decide +kernel
theorem dX12_by_1 : decode cX12_by 1 = .ok (.iconst 0, 1) := by decide +kernel
theorem dX12_by_2 : decode cX12_by 2 = .ok (.putfield 70, 3) := by decide +kernel
theorem dX12_by_5 : decode cX12_by 5 = .ok (.aload_n 0, 1) := by decide +kernel
theorem dX12_by_6 : decode cX12_by 6 = .ok (.iload_n 1, 1) := by decide +kernel
theorem dX12_by_7 : decode cX12_by 7 = .ok (.invokevirtual 485, 3) := by decide +kernel
theorem dX12_by_10 : decode cX12_by 10 = .ok (.ifCond .ne 9, 3) := by decide +kernel
theorem dX12_by_13 : decode cX12_by 13 = .ok (.aload_n 0, 1) := by decide +kernel
theorem dX12_by_14 : decode cX12_by 14 = .ok (.iconst 1, 1) := by decide +kernel
theorem dX12_by_15 : decode cX12_by 15 = .ok (.invokevirtual 76, 3) := by decide +kernel
theorem dX12_by_18 : decode cX12_by 18 = .ok (.ireturn, 1) := by decide +kernel
theorem dX12_call_0 : decode cX12_call 0 = .ok (.aload_n 0, 1) := by decide +kernel
theorem dX12_call_1 : decode cX12_call 1 = .ok (.iconst 0, 1) := by decide +kernel
theorem dX12_call_2 : decode cX12_call 2 = .ok (.putfield 70, 3) := by decide +kernel
theorem dX12_call_5 : decode cX12_call 5 = .ok (.aload_n 0, 1) := by decide +kernel
theorem dX12_call_6 : decode cX12_call 6 = .ok (.getfield 385, 3) := by decide +kernel
theorem dX12_call_9 : decode cX12_call 9 = .ok (.ifnull 18, 3) := by decide +kernel
theorem dX12_call_27 : decode cX12_call 27 = .ok (.aload_n 0, 1) := by decide +kernel
theorem dX12_call_28 : decode cX12_call 28 = .ok (.iconst 1, 1) := by decide +kernel
theorem dX12_call_29 : decode cX12_call 29 = .ok (.invokevirtual 507, 3) := by decide +kernel
theorem dX12_call_32 : decode cX12_call 32 = .ok (.ireturn, 1) := by decide +kernel
theorem dX12_calls_0 : decode cX12_calls 0 = .ok (.aload_n 0, 1) := by decide +kernel
theorem dX12_calls_1 : decode cX12_calls 1 = .ok (.iconst 0, 1) := by decide +kernel
theorem dX12_calls_2 : decode cX12_calls 2 = .ok (.putfield 70, 3) := by decide +kernel
theorem dX12_calls_5 : decode cX12_calls 5 = .ok (.aload_n 0, 1) := by decide +kernel
theorem dX12_calls_6 : decode cX12_calls 6 = .ok (.getfield 385, 3) := by decide +kernel
theorem dX12_calls_9 : decode cX12_calls 9 = .ok (.ifnonnull 11, 3) := by decide +kernel
theorem dX12_calls_12 : decode cX12_calls 12 = .ok (.aload_n 0, 1) := by decide +kernel
theorem dX12_calls_13 : decode cX12_calls 13 = .ok (.iconst 1, 1) := by decide +kernel
theorem dX12_calls_14 : decode cX12_calls 14 = .ok (.invokevirtual 76, 3) := by decide +kernel
theorem dX12_calls_17 : decode cX12_calls 17 = .ok (.goto 13, 3) := by decide +kernel
theorem dX12_calls_30 : decode cX12_calls 30 = .ok (.ireturn, 1) := by decide +kernel
theorem dX12_cause_0 : decode cX12_cause 0 = .ok (.aload_n 0, 1) := by decide +kernel
theorem dX12_cause_1 : decode cX12_cause 1 = .ok (.iconst 0, 1) := by decide +kernel
theorem dX12_cause_2 : decode cX12_cause 2 = .ok (.putfield 70, 3) := by decide +kernel
theorem dX12_cause_5 : decode cX12_cause 5 = .ok (.aload_n 0, 1) := by decide +kernel
theorem dX12_cause_6 : decode cX12_cause 6 = .ok (.iload_n 1, 1) := by decide +kernel
theorem dX12_cause_7 : decode cX12_cause 7 = .ok (.invokevirtual 461, 3) := by decide +kernel
theorem dX12_cause_10 : decode cX12_cause 10 = .ok (.ifCond .ne 9, 3) := by decide +kernel
theorem dX12_cause_13 : decode cX12_cause 13 = .ok (.aload_n 0, 1) := by decide +kernel
theorem dX12_cause_14 : decode cX12_cause 14 = .ok (.iconst 1, 1) := by decide +kernel
theorem dX12_cause_15 : decode cX12_cause 15 = .ok (.invokevirtual 76, 3) := by decide +kernel
theorem dX12_cause_18 : decode cX12_cause 18 = .ok (.ireturn, 1) := by decide +kernel
theorem dX12_change_0 : decode cX12_change 0 = .ok (.aload_n 0, 1) := by decide +kernel
theorem dX12_change_1 : decode cX12_change 1 = .ok (.iconst 0, 1) := by decide +kernel
theorem dX12_change_2 : decode cX12_change 2 = .ok (.putfield 70, 3) := by decide +kernel
theorem dX12_change_5 : decode cX12_change 5 = .ok (.aload_n 0, 1) := by decide +kernel
theorem dX12_change_6 : decode cX12_change 6 = .ok (.iload_n 1, 1) := by decide +kernel
theorem dX12_change_7 : decode cX12_change 7 = .ok (.invokevirtual 446, 3) := by decide +kernel
theorem dX12_change_10 : decode cX12_change 10 = .ok (.ifCond .ne 9, 3) := by decide +kernel
theorem dX12_change_13 : decode cX12_change 13 = .ok (.aload_n 0, 1) := by decide +kernel
theorem dX12_change_14 : decode cX12_change 14 = .ok (.iconst 1, 1) := by decide +kernel
theorem dX12_change_15 : decode cX12_change 15 = .ok (.invokevirtual 76, 3) := by decide +kernel
theorem dX12_change_18 : decode cX12_change 18 = .ok (.ireturn, 1) := by decide +kernel
theorem dX12_changes_0 : decode cX12_changes 0 = .ok (.aload_n 0, 1) := by decide +kernel
theorem dX12_changes_1 : decode cX12_changes 1 = .ok (.iconst 0, 1) := by decide +kernel
theorem dX12_changes_2 : decode cX12_changes 2 = .ok (.putfield 70, 3) := by decide +kernel
theorem dX12_changes_5 : decode cX12_changes 5 = .ok (.aload_n 0, 1) := by decide +kernel
theorem dX12_changes_6 : decode cX12_changes 6 = .ok (.iload_n 1, 1) := by decide +kernel
theorem dX12_changes_7 : decode cX12_changes 7 = .ok (.invokevirtual 446, 3) := by decide +kernel
theorem dX12_changes_10 : decode cX12_changes 10 = .ok (.ifCond .ne 9, 3) := by decide +kernel
theorem dX12_changes_13 : decode cX12_changes 13 = .ok (.aload_n 0, 1) := by decide +kernel
theorem dX12_changes_14 : decode cX12_changes 14 = .ok (.iconst 1, 1) := by decide +kernel
theorem dX12_changes_15 : decode cX12_changes 15 = .ok (.invokevirtual 76, 3) := by decide +kernel
theorem dX12_changes_18 : decode cX12_changes 18 = .ok (.ireturn, 1) := by decide +kernel
theorem dX12_cheese_0 : decode cX12_cheese 0 = .ok (.aload_n 0, 1) := by decide +kernel
theorem dX12_cheese_1 : decode cX12_cheese 1 = .ok (.iconst 0, 1) := by decide +kernel
theorem dX12_cheese_2 : decode cX12_cheese 2 = .ok (.putfield 70, 3) := by decide +kernel
theorem dX12_cheese_5 : decode cX12_cheese 5 = .ok (.aload_n 0, 1) := by decide +kernel
theorem dX12_cheese_6 : decode cX12_cheese 6 = .ok (.iload_n 1, 1) := by decide +kernel
theorem dX12_cheese_7 : decode cX12_cheese 7 = .ok (.invokevirtual 461, 3) := by decide +kernel
theorem dX12_cheese_10 : decode cX12_cheese 10 = .ok (.ifCond .eq 13, 3) := by decide +kernel
theorem dX12_cheese_23 : decode cX12_cheese 23 = .ok (.aload_n 0, 1) := by decide +kernel
theorem dX12_cheese_24 : decode cX12_cheese 24 = .ok (.iconst 1, 1) := by decide +kernel
theorem dX12_cheese_25 : decode cX12_cheese 25 = .ok (.invokevirtual 76, 3) := by decide +kernel
theorem dX12_cheese_28 : decode cX12_cheese 28 = .ok (.ireturn, 1) := by decide +kernel
theorem dX12_cloud_0 : decode cX12_cloud 0 = .ok (.aload_n 0, 1) := by decide +kernel
theorem dX12_cloud_1 : decode cX12_cloud 1 = .ok (.iconst 0, 1) := by decide +kernel
theorem dX12_cloud_2 : decode cX12_cloud 2 = .ok (.putfield 70, 3) := by decide +kernel
theorem dX12_cloud_5 : decode cX12_cloud 5 = .ok (.aload_n 0, 1) := by decide +kernel
theorem dX12_cloud_6 : decode cX12_cloud 6 = .ok (.getfield 385, 3) := by decide +kernel
theorem dX12_cloud_9 : decode cX12_cloud 9 = .ok (.ifnonnull 9, 3) := by decide +kernel
theorem dX12_cloud_12 : decode cX12_cloud 12 = .ok (.aload_n 0, 1) := by decide +kernel
theorem dX12_cloud_13 : decode cX12_cloud 13 = .ok (.iconst 1, 1) := by decide +kernel
theorem dX12_cloud_14 : decode cX12_cloud 14 = .ok (.invokevirtual 507, 3) := by decide +kernel
theorem dX12_cloud_17 : decode cX12_cloud 17 = .ok (.ireturn, 1) := by decide +kernel
theorem dX12_denied_0 : decode cX12_denied 0 = .ok (.aload_n 0, 1) := by decide +kernel
theorem dX12_denied_1 : decode cX12_denied 1 = .ok (.iload_n 1, 1) := by decide +kernel
theorem dX12_denied_2 : decode cX12_denied 2 = .ok (.invokevirtual 76, 3) := by decide +kernel
theorem dX12_denied_5 : decode cX12_denied 5 = .ok (.pop, 1) := by decide +kernel
theorem dX12_denied_6 : decode cX12_denied 6 = .ok (.iconst 0, 1) := by decide +kernel
theorem dX12_denied_7 : decode cX12_denied 7 = .ok (.ireturn, 1) := by decide +kernel
theorem dX12_draw_0 : decode cX12_draw 0 = .ok (.aload_n 0, 1) := by decide +kernel
theorem dX12_draw_1 : decode cX12_draw 1 = .ok (.iconst 0, 1) := by decide +kernel
theorem dX12_draw_2 : decode cX12_draw 2 = .ok (.putfield 70, 3) := by decide +kernel
theorem dX12_draw_5 : decode cX12_draw 5 = .ok (.aload_n 0, 1) := by decide +kernel
theorem dX12_draw_6 : decode cX12_draw 6 = .ok (.getfield 385, 3) := by decide +kernel
theorem dX12_draw_9 : decode cX12_draw 9 = .ok (.ifnonnull 9, 3) := by decide +kernel
theorem dX12_draw_12 : decode cX12_draw 12 = .ok (.aload_n 0, 1) := by decide +kernel
theorem dX12_draw_13 : decode cX12_draw 13 = .ok (.iconst 1, 1) := by decide +kernel
theorem dX12_draw_14 : decode cX12_draw 14 = .ok (.invokevirtual 76, 3) := by decide +kernel
theorem dX12_draw_17 : decode cX12_draw 17 = .ok (.ireturn, 1) := by decide +kernel
theorem dX12_due_0 : decode cX12_due 0 = .ok (.aload_n 0, 1) := by decide +kernel
theorem dX12_due_1 : decode cX12_due 1 = .ok (.iconst 0, 1) := by decide +kernel
theorem dX12_due_2 : decode cX12_due 2 = .ok (.putfield 70, 3) := by decide +kernel
theorem dX12_due_5 : decode cX12_due 5 = .ok (.aload_n 0, 1) := by decide +kernel
theorem dX12_due_6 : decode cX12_due 6 = .ok (.getfield 385, 3) := by decide +kernel
theorem dX12_due_9 : decode cX12_due 9 = .ok (.ifnonnull 9, 3) := by decide +kernel
theorem dX12_due_12 : decode cX12_due 12 = .ok (.aload_n 0, 1) := by decide +kernel
theorem dX12_due_13 : decode cX12_due 13 = .ok (.iconst 1, 1) := by decide +kernel
theorem dX12_due_14 : decode cX12_due 14 = .ok (.invokevirtual 76, 3) := by decide +kernel
theorem dX12_due_17 : decode cX12_due 17 = .ok (.ireturn, 1) := by decide +kernel
theorem dX12_event_0 : decode cX12_event 0 = .ok (.aload_n 0, 1) := by decide +kernel
theorem dX12_event_1 : decode cX12_event 1 = .ok (.iconst 0, 1) := by decide +kernel
theorem dX12_event_2 : decode cX12_event 2 = .ok (.putfield 70, 3) := by decide +kernel
theorem dX12_event_5 : decode cX12_event 5 = .ok (.aload_n 0, 1) := by decide +kernel
theorem dX12_event_6 : decode cX12_event 6 = .ok (.iload_n 1, 1) := by decide +kernel
theorem dX12_event_7 : decode cX12_event 7 = .ok (.invokevirtual 467, 3) := by decide +kernel
theorem dX12_event_10 : decode cX12_event 10 = .ok (.ifCond .eq 12, 3) := by decide +kernel
theorem dX12_event_22 : decode cX12_event 22 = .ok (.aload_n 0, 1) := by decide +kernel
theorem dX12_event_23 : decode cX12_event 23 = .ok (.iconst 1, 1) := by decide +kernel
theorem dX12_event_24 : decode cX12_event 24 = .ok (.invokevirtual 76, 3) := by decide +kernel
theorem dX12_event_27 : decode cX12_event 27 = .ok (.ireturn, 1) := by decide +kernel
theorem dX12_fault_0 : decode cX12_fault 0 = .ok (.aload_n 0, 1) := by decide +kernel
theorem dX12_fault_1 : decode cX12_fault 1 = .ok (.iconst 0, 1) := by decide +kernel
theorem dX12_fault_2 : decode cX12_fault 2 = .ok (.putfield 70, 3) := by decide +kernel
theorem dX12_fault_5 : decode cX12_fault 5 = .ok (.aload_n 0, 1) := by decide +kernel
theorem dX12_fault_6 : decode cX12_fault 6 = .ok (.getfield 128, 3) := by decide +kernel
theorem dX12_fault_9 : decode cX12_fault 9 = .ok (.ireturn, 1) := by decide +kernel
theorem dX12_feed_0 : decode cX12_feed 0 = .ok (.aload_n 0, 1) := by decide +kernel
theorem dX12_feed_1 : decode cX12_feed 1 = .ok (.iconst 0, 1) := by decide +kernel
theorem dX12_feed_2 : decode cX12_feed 2 = .ok (.putfield 70, 3) := by decide +kernel
theorem dX12_feed_5 : decode cX12_feed 5 = .ok (.aload_n 0, 1) := by decide +kernel
theorem dX12_feed_6 : decode cX12_feed 6 = .ok (.getfield 378, 3) := by decide +kernel
theorem dX12_feed_9 : decode cX12_feed 9 = .ok (.bipush 20, 2) := by decide +kernel
theorem dX12_feed_11 : decode cX12_feed 11 = .ok (.iadd, 1) := by decide +kernel
theorem dX12_feed_12 : decode cX12_feed 12 = .ok (.sipush 900, 3) := by decide +kernel
theorem dX12_feed_15 : decode cX12_feed 15 = .ok (.if_icmp .le 5, 3) := by decide +kernel
theorem dX12_feed_20 : decode cX12_feed 20 = .ok (.iconst 0, 1) := by decide +kernel
theorem dX12_feed_21 : decode cX12_feed 21 = .ok (.istore 6, 2) := by decide +kernel
theorem dX12_feed_23 : decode cX12_feed 23 = .ok (.iload 6, 2) := by decide +kernel
theorem dX12_feed_25 : decode cX12_feed 25 = .ok (.bipush 20, 2) := by decide +kernel
theorem dX12_feed_27 : decode cX12_feed 27 = .ok (.if_icmp .ge 90, 3) := by decide +kernel
theorem dX12_feed_30 : decode cX12_feed 30 = .ok (.iload 6, 2) := by decide +kernel
theorem dX12_feed_32 : decode cX12_feed 32 = .ok (.iconst 4, 1) := by decide +kernel
theorem dX12_feed_33 : decode cX12_feed 33 = .ok (.if_icmp .ge 7, 3) := by decide +kernel
theorem dX12_feed_36 : decode cX12_feed 36 = .ok (.iload_n 1, 1) := by decide +kernel
theorem dX12_feed_37 : decode cX12_feed 37 = .ok (.goto 39, 3) := by decide +kernel
theorem dX12_feed_40 : decode cX12_feed 40 = .ok (.iload 6, 2) := by decide +kernel
theorem dX12_feed_42 : decode cX12_feed 42 = .ok (.bipush 8, 2) := by decide +kernel
theorem dX12_feed_44 : decode cX12_feed 44 = .ok (.if_icmp .ge 7, 3) := by decide +kernel
theorem dX12_feed_47 : decode cX12_feed 47 = .ok (.iload_n 2, 1) := by decide +kernel
theorem dX12_feed_48 : decode cX12_feed 48 = .ok (.goto 28, 3) := by decide +kernel
theorem dX12_feed_51 : decode cX12_feed 51 = .ok (.iload 6, 2) := by decide +kernel
theorem dX12_feed_53 : decode cX12_feed 53 = .ok (.bipush 12, 2) := by decide +kernel
theorem dX12_feed_55 : decode cX12_feed 55 = .ok (.if_icmp .ge 7, 3) := by decide +kernel
theorem dX12_feed_58 : decode cX12_feed 58 = .ok (.iload_n 3, 1) := by decide +kernel
theorem dX12_feed_59 : decode cX12_feed 59 = .ok (.goto 17, 3) := by decide +kernel
theorem dX12_feed_62 : decode cX12_feed 62 = .ok (.iload 6, 2) := by decide +kernel
theorem dX12_feed_64 : decode cX12_feed 64 = .ok (.bipush 16, 2) := by decide +kernel
theorem dX12_feed_66 : decode cX12_feed 66 = .ok (.if_icmp .ge 8, 3) := by decide +kernel
theorem dX12_feed_69 : decode cX12_feed 69 = .ok (.iload 4, 2) := by decide +kernel
theorem dX12_feed_71 : decode cX12_feed 71 = .ok (.goto 5, 3) := by decide +kernel
theorem dX12_feed_74 : decode cX12_feed 74 = .ok (.iload 5, 2) := by decide +kernel
theorem dX12_feed_76 : decode cX12_feed 76 = .ok (.istore 7, 2) := by decide +kernel
theorem dX12_feed_78 : decode cX12_feed 78 = .ok (.aload_n 0, 1) := by decide +kernel
theorem dX12_feed_79 : decode cX12_feed 79 = .ok (.getfield 13, 3) := by decide +kernel
theorem dX12_feed_82 : decode cX12_feed 82 = .ok (.aload_n 0, 1) := by decide +kernel
theorem dX12_feed_83 : decode cX12_feed 83 = .ok (.getfield 378, 3) := by decide +kernel
theorem dX12_feed_86 : decode cX12_feed 86 = .ok (.iload 7, 2) := by decide +kernel
theorem dX12_feed_88 : decode cX12_feed 88 = .ok (.bipush 24, 2) := by decide +kernel
theorem dX12_feed_90 : decode cX12_feed 90 = .ok (.bipush 8, 2) := by decide +kernel
theorem dX12_feed_92 : decode cX12_feed 92 = .ok (.iload 6, 2) := by decide +kernel
theorem dX12_feed_94 : decode cX12_feed 94 = .ok (.iconst 4, 1) := by decide +kernel
theorem dX12_feed_95 : decode cX12_feed 95 = .ok (.irem, 1) := by decide +kernel
theorem dX12_feed_96 : decode cX12_feed 96 = .ok (.imul, 1) := by decide +kernel
theorem dX12_feed_97 : decode cX12_feed 97 = .ok (.isub, 1) := by decide +kernel
theorem dX12_feed_98 : decode cX12_feed 98 = .ok (.ishr, 1) := by decide +kernel
theorem dX12_feed_99 : decode cX12_feed 99 = .ok (.i2b, 1) := by decide +kernel
theorem dX12_feed_100 : decode cX12_feed 100 = .ok (.bastore, 1) := by decide +kernel
theorem dX12_feed_101 : decode cX12_feed 101 = .ok (.aload_n 0, 1) := by decide +kernel
theorem dX12_feed_102 : decode cX12_feed 102 = .ok (.dup, 1) := by decide +kernel
theorem dX12_feed_103 : decode cX12_feed 103 = .ok (.getfield 378, 3) := by decide +kernel
theorem dX12_feed_106 : decode cX12_feed 106 = .ok (.iconst 1, 1) := by decide +kernel
theorem dX12_feed_107 : decode cX12_feed 107 = .ok (.iadd, 1) := by decide +kernel
theorem dX12_feed_108 : decode cX12_feed 108 = .ok (.putfield 378, 3) := by decide +kernel
theorem dX12_feed_111 : decode cX12_feed 111 = .ok (.iinc 6 1, 3) := by decide +kernel
theorem dX12_feed_114 : decode cX12_feed 114 = .ok (.goto (-91), 3) := by decide +kernel
theorem dX12_feed_117 : decode cX12_feed 117 = .ok (.aload_n 0, 1) := by decide +kernel
theorem dX12_feed_118 : decode cX12_feed 118 = .ok (.getfield 378, 3) := by decide +kernel
theorem dX12_feed_121 : decode cX12_feed 121 = .ok (.ireturn, 1) := by decide +kernel
theorem dX12_fewest_0 : decode cX12_fewest 0 = .ok (.aload_n 0, 1) := by decide +kernel
theorem dX12_fewest_1 : decode cX12_fewest 1 = .ok (.iconst 0, 1) := by decide +kernel
theorem dX12_fewest_2 : decode cX12_fewest 2 = .ok (.putfield 70, 3) := by decide +kernel
theorem dX12_fewest_5 : decode cX12_fewest 5 = .ok (.aload_n 0, 1) := by decide +kernel
theorem dX12_fewest_6 : decode cX12_fewest 6 = .ok (.getfield 385, 3) := by decide +kernel
theorem dX12_fewest_9 : decode cX12_fewest 9 = .ok (.ifnonnull 9, 3) := by decide +kernel
theorem dX12_fewest_12 : decode cX12_fewest 12 = .ok (.aload_n 0, 1) := by decide +kernel
theorem dX12_fewest_13 : decode cX12_fewest 13 = .ok (.iconst 1, 1) := by decide +kernel
theorem dX12_fewest_14 : decode cX12_fewest 14 = .ok (.invokevirtual 76, 3) := by decide +kernel
theorem dX12_fewest_17 : decode cX12_fewest 17 = .ok (.ireturn, 1) := by decide +kernel
theorem dX12_fewestBy_0 : decode cX12_fewestBy 0 = .ok (.aload_n 0, 1) := by decide +kernel
theorem dX12_fewestBy_1 : decode cX12_fewestBy 1 = .ok (.iconst 0, 1) := by decide +kernel
theorem dX12_fewestBy_2 : decode cX12_fewestBy 2 = .ok (.putfield 70, 3) := by decide +kernel
theorem dX12_fewestBy_5 : decode cX12_fewestBy 5 = .ok (.aload_n 0, 1) := by decide +kernel
theorem dX12_fewestBy_6 : decode cX12_fewestBy 6 = .ok (.getfield 385, 3) := by decide +kernel
theorem dX12_fewestBy_9 : decode cX12_fewestBy 9 = .ok (.ifnonnull 11, 3) := by decide +kernel
theorem dX12_fewestBy_12 : decode cX12_fewestBy 12 = .ok (.aload_n 0, 1) := by decide +kernel
theorem dX12_fewestBy_13 : decode cX12_fewestBy 13 = .ok (.iconst 1, 1) := by decide +kernel
theorem dX12_fewestBy_14 : decode cX12_fewestBy 14 = .ok (.invokevirtual 76, 3) := by decide +kernel
theorem dX12_fewestBy_17 : decode cX12_fewestBy 17 = .ok (.goto 11, 3) := by decide +kernel
theorem dX12_fewestBy_28 : decode cX12_fewestBy 28 = .ok (.ireturn, 1) := by decide +kernel
theorem dX12_fits_0 : decode cX12_fits 0 = .ok (.aload_n 0, 1) := by decide +kernel
theorem dX12_fits_1 : decode cX12_fits 1 = .ok (.iconst 0, 1) := by decide +kernel
theorem dX12_fits_2 : decode cX12_fits 2 = .ok (.putfield 70, 3) := by decide +kernel
theorem dX12_fits_5 : decode cX12_fits 5 = .ok (.aload_n 0, 1) := by decide +kernel
theorem dX12_fits_6 : decode cX12_fits 6 = .ok (.iload_n 1, 1) := by decide +kernel
theorem dX12_fits_7 : decode cX12_fits 7 = .ok (.invokevirtual 485, 3) := by decide +kernel
theorem dX12_fits_10 : decode cX12_fits 10 = .ok (.ifCond .ne 9, 3) := by decide +kernel
theorem dX12_fits_13 : decode cX12_fits 13 = .ok (.aload_n 0, 1) := by decide +kernel
theorem dX12_fits_14 : decode cX12_fits 14 = .ok (.iconst 1, 1) := by decide +kernel
theorem dX12_fits_15 : decode cX12_fits 15 = .ok (.invokevirtual 76, 3) := by decide +kernel
theorem dX12_fits_18 : decode cX12_fits 18 = .ok (.ireturn, 1) := by decide +kernel
theorem dX12_in_0 : decode cX12_in 0 = .ok (.iload_n 0, 1) := by decide +kernel
theorem dX12_in_1 : decode cX12_in 1 = .ok (.iload_n 1, 1) := by decide +kernel
theorem dX12_in_2 : decode cX12_in 2 = .ok (.if_icmp .lt 12, 3) := by decide +kernel
theorem dX12_in_5 : decode cX12_in 5 = .ok (.iload_n 0, 1) := by decide +kernel
theorem dX12_in_6 : decode cX12_in 6 = .ok (.iload_n 2, 1) := by decide +kernel
theorem dX12_in_7 : decode cX12_in 7 = .ok (.if_icmp .gt 7, 3) := by decide +kernel
theorem dX12_in_10 : decode cX12_in 10 = .ok (.iconst 1, 1) := by decide +kernel
theorem dX12_in_11 : decode cX12_in 11 = .ok (.goto 4, 3) := by decide +kernel
theorem dX12_in_14 : decode cX12_in 14 = .ok (.iconst 0, 1) := by decide +kernel
theorem dX12_in_15 : decode cX12_in 15 = .ok (.ireturn, 1) := by decide +kernel
theorem dX12_isCheese_0 : decode cX12_isCheese 0 = .ok (.aload_n 0, 1) := by decide +kernel
theorem dX12_isCheese_1 : decode cX12_isCheese 1 = .ok (.getfield 385, 3) := by decide +kernel
theorem dX12_isCheese_4 : decode cX12_isCheese 4 = .ok (.ifnull 22, 3) := by decide +kernel
theorem dX12_isCheese_26 : decode cX12_isCheese 26 = .ok (.iconst 0, 1) := by decide +kernel
theorem dX12_isCheese_27 : decode cX12_isCheese 27 = .ok (.ireturn, 1) := by decide +kernel
theorem dX12_isEvent_0 : decode cX12_isEvent 0 = .ok (.aload_n 0, 1) := by decide +kernel
theorem dX12_isEvent_1 : decode cX12_isEvent 1 = .ok (.getfield 385, 3) := by decide +kernel
theorem dX12_isEvent_4 : decode cX12_isEvent 4 = .ok (.ifnull 19, 3) := by decide +kernel
theorem dX12_isEvent_23 : decode cX12_isEvent 23 = .ok (.iconst 0, 1) := by decide +kernel
theorem dX12_isEvent_24 : decode cX12_isEvent 24 = .ok (.ireturn, 1) := by decide +kernel
theorem dX12_isHut_0 : decode cX12_isHut 0 = .ok (.aload_n 0, 1) := by decide +kernel
theorem dX12_isHut_1 : decode cX12_isHut 1 = .ok (.getfield 385, 3) := by decide +kernel
theorem dX12_isHut_4 : decode cX12_isHut 4 = .ok (.ifnull 22, 3) := by decide +kernel
theorem dX12_isHut_26 : decode cX12_isHut 26 = .ok (.iconst 0, 1) := by decide +kernel
theorem dX12_isHut_27 : decode cX12_isHut 27 = .ok (.ireturn, 1) := by decide +kernel
theorem dX12_isSlice_0 : decode cX12_isSlice 0 = .ok (.aload_n 0, 1) := by decide +kernel
theorem dX12_isSlice_1 : decode cX12_isSlice 1 = .ok (.getfield 385, 3) := by decide +kernel
theorem dX12_isSlice_4 : decode cX12_isSlice 4 = .ok (.ifnull 22, 3) := by decide +kernel
theorem dX12_isSlice_26 : decode cX12_isSlice 26 = .ok (.iconst 0, 1) := by decide +kernel
theorem dX12_isSlice_27 : decode cX12_isSlice 27 = .ok (.ireturn, 1) := by decide +kernel
theorem dX12_isTurner_0 : decode cX12_isTurner 0 = .ok (.aload_n 0, 1) := by decide +kernel
theorem dX12_isTurner_1 : decode cX12_isTurner 1 = .ok (.getfield 385, 3) := by decide +kernel
theorem dX12_isTurner_4 : decode cX12_isTurner 4 = .ok (.ifnull 22, 3) := by decide +kernel
theorem dX12_isTurner_26 : decode cX12_isTurner 26 = .ok (.iconst 0, 1) := by decide +kernel
theorem dX12_isTurner_27 : decode cX12_isTurner 27 = .ok (.ireturn, 1) := by decide +kernel
theorem dX12_lift_0 : decode cX12_lift 0 = .ok (.aload_n 0, 1) := by decide +kernel
theorem dX12_lift_1 : decode cX12_lift 1 = .ok (.iconst 0, 1) := by decide +kernel
theorem dX12_lift_2 : decode cX12_lift 2 = .ok (.putfield 70, 3) := by decide +kernel
theorem dX12_lift_5 : decode cX12_lift 5 = .ok (.aload_n 0, 1) := by decide +kernel
theorem dX12_lift_6 : decode cX12_lift 6 = .ok (.getfield 385, 3) := by decide +kernel
theorem dX12_lift_9 : decode cX12_lift 9 = .ok (.ifnull 12, 3) := by decide +kernel
theorem dX12_lift_21 : decode cX12_lift 21 = .ok (.aload_n 0, 1) := by decide +kernel
theorem dX12_lift_22 : decode cX12_lift 22 = .ok (.bipush 6, 2) := by decide +kernel
theorem dX12_lift_24 : decode cX12_lift 24 = .ok (.invokevirtual 507, 3) := by decide +kernel
theorem dX12_lift_27 : decode cX12_lift 27 = .ok (.ireturn, 1) := by decide +kernel
theorem dX12_light_0 : decode cX12_light 0 = .ok (.aload_n 0, 1) := by decide +kernel
theorem dX12_light_1 : decode cX12_light 1 = .ok (.iconst 0, 1) := by decide +kernel
theorem dX12_light_2 : decode cX12_light 2 = .ok (.putfield 70, 3) := by decide +kernel
theorem dX12_light_5 : decode cX12_light 5 = .ok (.aload_n 0, 1) := by decide +kernel
theorem dX12_light_6 : decode cX12_light 6 = .ok (.iload_n 1, 1) := by decide +kernel
theorem dX12_light_7 : decode cX12_light 7 = .ok (.invokevirtual 446, 3) := by decide +kernel
theorem dX12_light_10 : decode cX12_light 10 = .ok (.ifCond .ne 9, 3) := by decide +kernel
theorem dX12_light_13 : decode cX12_light 13 = .ok (.aload_n 0, 1) := by decide +kernel
theorem dX12_light_14 : decode cX12_light 14 = .ok (.iconst 1, 1) := by decide +kernel
theorem dX12_light_15 : decode cX12_light 15 = .ok (.invokevirtual 76, 3) := by decide +kernel
theorem dX12_light_18 : decode cX12_light 18 = .ok (.ireturn, 1) := by decide +kernel
theorem dX12_lost_0 : decode cX12_lost 0 = .ok (.aload_n 0, 1) := by decide +kernel
theorem dX12_lost_1 : decode cX12_lost 1 = .ok (.iload_n 1, 1) := by decide +kernel
theorem dX12_lost_2 : decode cX12_lost 2 = .ok (.invokevirtual 76, 3) := by decide +kernel
theorem dX12_lost_5 : decode cX12_lost 5 = .ok (.pop, 1) := by decide +kernel
theorem dX12_lost_6 : decode cX12_lost 6 = .ok (.ldc 80, 2) := by decide +kernel
theorem dX12_lost_8 : decode cX12_lost 8 = .ok (.ireturn, 1) := by decide +kernel
theorem dX12_mark_0 : decode cX12_mark 0 = .ok (.aload_n 0, 1) := by decide +kernel
theorem dX12_mark_1 : decode cX12_mark 1 = .ok (.iconst 0, 1) := by decide +kernel
theorem dX12_mark_2 : decode cX12_mark 2 = .ok (.putfield 70, 3) := by decide +kernel
theorem dX12_mark_5 : decode cX12_mark 5 = .ok (.aload_n 0, 1) := by decide +kernel
theorem dX12_mark_6 : decode cX12_mark 6 = .ok (.getfield 385, 3) := by decide +kernel
theorem dX12_mark_9 : decode cX12_mark 9 = .ok (.ifnonnull 9, 3) := by decide +kernel
theorem dX12_mark_12 : decode cX12_mark 12 = .ok (.aload_n 0, 1) := by decide +kernel
theorem dX12_mark_13 : decode cX12_mark 13 = .ok (.iconst 1, 1) := by decide +kernel
theorem dX12_mark_14 : decode cX12_mark 14 = .ok (.invokevirtual 76, 3) := by decide +kernel
theorem dX12_mark_17 : decode cX12_mark 17 = .ok (.ireturn, 1) := by decide +kernel
theorem dX12_nights_0 : decode cX12_nights 0 = .ok (.aload_n 0, 1) := by decide +kernel
theorem dX12_nights_1 : decode cX12_nights 1 = .ok (.iconst 0, 1) := by decide +kernel
theorem dX12_nights_2 : decode cX12_nights 2 = .ok (.putfield 70, 3) := by decide +kernel
theorem dX12_nights_5 : decode cX12_nights 5 = .ok (.aload_n 0, 1) := by decide +kernel
theorem dX12_nights_6 : decode cX12_nights 6 = .ok (.getfield 385, 3) := by decide +kernel
theorem dX12_nights_9 : decode cX12_nights 9 = .ok (.ifnonnull 9, 3) := by decide +kernel
theorem dX12_nights_12 : decode cX12_nights 12 = .ok (.aload_n 0, 1) := by decide +kernel
theorem dX12_nights_13 : decode cX12_nights 13 = .ok (.iconst 1, 1) := by decide +kernel
theorem dX12_nights_14 : decode cX12_nights 14 = .ok (.invokevirtual 458, 3) := by decide +kernel
theorem dX12_nights_17 : decode cX12_nights 17 = .ok (.ireturn, 1) := by decide +kernel
theorem dX12_notices_0 : decode cX12_notices 0 = .ok (.aload_n 0, 1) := by decide +kernel
theorem dX12_notices_1 : decode cX12_notices 1 = .ok (.iconst 0, 1) := by decide +kernel
theorem dX12_notices_2 : decode cX12_notices 2 = .ok (.putfield 70, 3) := by decide +kernel
theorem dX12_notices_5 : decode cX12_notices 5 = .ok (.aload_n 0, 1) := by decide +kernel
theorem dX12_notices_6 : decode cX12_notices 6 = .ok (.iload_n 1, 1) := by decide +kernel
theorem dX12_notices_7 : decode cX12_notices 7 = .ok (.invokevirtual 452, 3) := by decide +kernel
theorem dX12_notices_10 : decode cX12_notices 10 = .ok (.ifCond .eq 11, 3) := by decide +kernel
theorem dX12_notices_21 : decode cX12_notices 21 = .ok (.aload_n 0, 1) := by decide +kernel
theorem dX12_notices_22 : decode cX12_notices 22 = .ok (.iconst 1, 1) := by decide +kernel
theorem dX12_notices_23 : decode cX12_notices 23 = .ok (.invokevirtual 76, 3) := by decide +kernel
theorem dX12_notices_26 : decode cX12_notices 26 = .ok (.ireturn, 1) := by decide +kernel
theorem dX12_peak_0 : decode cX12_peak 0 = .ok (.aload_n 0, 1) := by decide +kernel
theorem dX12_peak_1 : decode cX12_peak 1 = .ok (.iconst 0, 1) := by decide +kernel
theorem dX12_peak_2 : decode cX12_peak 2 = .ok (.putfield 70, 3) := by decide +kernel
theorem dX12_peak_5 : decode cX12_peak 5 = .ok (.aload_n 0, 1) := by decide +kernel
theorem dX12_peak_6 : decode cX12_peak 6 = .ok (.getfield 385, 3) := by decide +kernel
theorem dX12_peak_9 : decode cX12_peak 9 = .ok (.ifnonnull 9, 3) := by decide +kernel
theorem dX12_peak_12 : decode cX12_peak 12 = .ok (.aload_n 0, 1) := by decide +kernel
theorem dX12_peak_13 : decode cX12_peak 13 = .ok (.iconst 1, 1) := by decide +kernel
theorem dX12_peak_14 : decode cX12_peak 14 = .ok (.invokevirtual 76, 3) := by decide +kernel
theorem dX12_peak_17 : decode cX12_peak 17 = .ok (.ireturn, 1) := by decide +kernel
theorem dX12_refused_0 : decode cX12_refused 0 = .ok (.aload_n 0, 1) := by decide +kernel
theorem dX12_refused_1 : decode cX12_refused 1 = .ok (.iload_n 1, 1) := by decide +kernel
theorem dX12_refused_2 : decode cX12_refused 2 = .ok (.putfield 73, 3) := by decide +kernel
theorem dX12_refused_5 : decode cX12_refused 5 = .ok (.aload_n 0, 1) := by decide +kernel
theorem dX12_refused_6 : decode cX12_refused 6 = .ok (.iconst (-1), 1) := by decide +kernel
theorem dX12_refused_7 : decode cX12_refused 7 = .ok (.putfield 9, 3) := by decide +kernel
theorem dX12_refused_10 : decode cX12_refused 10 = .ok (.iconst (-1), 1) := by decide +kernel
theorem dX12_refused_11 : decode cX12_refused 11 = .ok (.ireturn, 1) := by decide +kernel
theorem dX12_seed_0 : decode cX12_seed 0 = .ok (.aload_n 0, 1) := by decide +kernel
theorem dX12_seed_1 : decode cX12_seed 1 = .ok (.iconst 0, 1) := by decide +kernel
theorem dX12_seed_2 : decode cX12_seed 2 = .ok (.putfield 70, 3) := by decide +kernel
theorem dX12_seed_5 : decode cX12_seed 5 = .ok (.aload_n 0, 1) := by decide +kernel
theorem dX12_seed_6 : decode cX12_seed 6 = .ok (.getfield 385, 3) := by decide +kernel
theorem dX12_seed_9 : decode cX12_seed 9 = .ok (.ifnonnull 9, 3) := by decide +kernel
theorem dX12_seed_12 : decode cX12_seed 12 = .ok (.aload_n 0, 1) := by decide +kernel
theorem dX12_seed_13 : decode cX12_seed 13 = .ok (.iconst 1, 1) := by decide +kernel
theorem dX12_seed_14 : decode cX12_seed 14 = .ok (.invokevirtual 507, 3) := by decide +kernel
theorem dX12_seed_17 : decode cX12_seed 17 = .ok (.ireturn, 1) := by decide +kernel
theorem dX12_size_0 : decode cX12_size 0 = .ok (.aload_n 0, 1) := by decide +kernel
theorem dX12_size_1 : decode cX12_size 1 = .ok (.iconst 0, 1) := by decide +kernel
theorem dX12_size_2 : decode cX12_size 2 = .ok (.putfield 70, 3) := by decide +kernel
theorem dX12_size_5 : decode cX12_size 5 = .ok (.iload_n 1, 1) := by decide +kernel
theorem dX12_size_6 : decode cX12_size 6 = .ok (.bipush 12, 2) := by decide +kernel
theorem dX12_size_8 : decode cX12_size 8 = .ok (.if_icmp .ne 8, 3) := by decide +kernel
theorem dX12_size_11 : decode cX12_size 11 = .ok (.aload_n 0, 1) := by decide +kernel
theorem dX12_size_12 : decode cX12_size 12 = .ok (.getfield 378, 3) := by decide +kernel
theorem dX12_size_15 : decode cX12_size 15 = .ok (.ireturn, 1) := by decide +kernel
theorem dX12_size_16 : decode cX12_size 16 = .ok (.iload_n 1, 1) := by decide +kernel
theorem dX12_size_17 : decode cX12_size 17 = .ok (.iconst 0, 1) := by decide +kernel
theorem dX12_size_18 : decode cX12_size 18 = .ok (.bipush 11, 2) := by decide +kernel
theorem dX12_size_20 : decode cX12_size 20 = .ok (.invokestatic 149, 3) := by decide +kernel
theorem dX12_size_23 : decode cX12_size 23 = .ok (.ifCond .ne 5, 3) := by decide +kernel
theorem dX12_size_26 : decode cX12_size 26 = .ok (.iconst (-1), 1) := by decide +kernel
theorem dX12_size_27 : decode cX12_size 27 = .ok (.ireturn, 1) := by decide +kernel
theorem dX12_size_28 : decode cX12_size 28 = .ok (.aload_n 0, 1) := by decide +kernel
theorem dX12_size_29 : decode cX12_size 29 = .ok (.getfield 385, 3) := by decide +kernel
theorem dX12_size_32 : decode cX12_size 32 = .ok (.ifnonnull 5, 3) := by decide +kernel
theorem dX12_size_35 : decode cX12_size 35 = .ok (.iconst 0, 1) := by decide +kernel
theorem dX12_size_36 : decode cX12_size 36 = .ok (.ireturn, 1) := by decide +kernel
theorem dX12_sky_0 : decode cX12_sky 0 = .ok (.aload_n 0, 1) := by decide +kernel
theorem dX12_sky_1 : decode cX12_sky 1 = .ok (.iconst 0, 1) := by decide +kernel
theorem dX12_sky_2 : decode cX12_sky 2 = .ok (.putfield 70, 3) := by decide +kernel
theorem dX12_sky_5 : decode cX12_sky 5 = .ok (.aload_n 0, 1) := by decide +kernel
theorem dX12_sky_6 : decode cX12_sky 6 = .ok (.getfield 385, 3) := by decide +kernel
theorem dX12_sky_9 : decode cX12_sky 9 = .ok (.ifnonnull 9, 3) := by decide +kernel
theorem dX12_sky_12 : decode cX12_sky 12 = .ok (.aload_n 0, 1) := by decide +kernel
theorem dX12_sky_13 : decode cX12_sky 13 = .ok (.iconst 1, 1) := by decide +kernel
theorem dX12_sky_14 : decode cX12_sky 14 = .ok (.invokevirtual 76, 3) := by decide +kernel
theorem dX12_sky_17 : decode cX12_sky 17 = .ok (.ireturn, 1) := by decide +kernel
theorem dX12_total_0 : decode cX12_total 0 = .ok (.aload_n 0, 1) := by decide +kernel
theorem dX12_total_1 : decode cX12_total 1 = .ok (.iconst 0, 1) := by decide +kernel
theorem dX12_total_2 : decode cX12_total 2 = .ok (.putfield 70, 3) := by decide +kernel
theorem dX12_total_5 : decode cX12_total 5 = .ok (.aload_n 0, 1) := by decide +kernel
theorem dX12_total_6 : decode cX12_total 6 = .ok (.getfield 385, 3) := by decide +kernel
theorem dX12_total_9 : decode cX12_total 9 = .ok (.ifnonnull 11, 3) := by decide +kernel
theorem dX12_total_12 : decode cX12_total 12 = .ok (.aload_n 0, 1) := by decide +kernel
theorem dX12_total_13 : decode cX12_total 13 = .ok (.iconst 1, 1) := by decide +kernel
theorem dX12_total_14 : decode cX12_total 14 = .ok (.invokevirtual 458, 3) := by decide +kernel
theorem dX12_total_17 : decode cX12_total 17 = .ok (.goto 11, 3) := by decide +kernel
theorem dX12_total_28 : decode cX12_total 28 = .ok (.ireturn, 1) := by decide +kernel
theorem dX12_trouble_0 : decode cX12_trouble 0 = .ok (.aload_n 0, 1) := by decide +kernel
theorem dX12_trouble_1 : decode cX12_trouble 1 = .ok (.iconst 0, 1) := by decide +kernel
theorem dX12_trouble_2 : decode cX12_trouble 2 = .ok (.putfield 70, 3) := by decide +kernel
theorem dX12_trouble_5 : decode cX12_trouble 5 = .ok (.aload_n 0, 1) := by decide +kernel
theorem dX12_trouble_6 : decode cX12_trouble 6 = .ok (.getfield 73, 3) := by decide +kernel
theorem dX12_trouble_9 : decode cX12_trouble 9 = .ok (.ireturn, 1) := by decide +kernel
theorem dX12_turned_0 : decode cX12_turned 0 = .ok (.aload_n 0, 1) := by decide +kernel
theorem dX12_turned_1 : decode cX12_turned 1 = .ok (.iconst 0, 1) := by decide +kernel
theorem dX12_turned_2 : decode cX12_turned 2 = .ok (.putfield 70, 3) := by decide +kernel
theorem dX12_turned_5 : decode cX12_turned 5 = .ok (.aload_n 0, 1) := by decide +kernel
theorem dX12_turned_6 : decode cX12_turned 6 = .ok (.iload_n 1, 1) := by decide +kernel
theorem dX12_turned_7 : decode cX12_turned 7 = .ok (.invokevirtual 461, 3) := by decide +kernel
theorem dX12_turned_10 : decode cX12_turned 10 = .ok (.ifCond .ne 9, 3) := by decide +kernel
theorem dX12_turned_13 : decode cX12_turned 13 = .ok (.aload_n 0, 1) := by decide +kernel
theorem dX12_turned_14 : decode cX12_turned 14 = .ok (.iconst 1, 1) := by decide +kernel
theorem dX12_turned_15 : decode cX12_turned 15 = .ok (.invokevirtual 76, 3) := by decide +kernel
theorem dX12_turned_18 : decode cX12_turned 18 = .ok (.ireturn, 1) := by decide +kernel
theorem dX12_undo_0 : decode cX12_undo 0 = .ok (.aload_n 0, 1) := by decide +kernel
theorem dX12_undo_1 : decode cX12_undo 1 = .ok (.iconst 0, 1) := by decide +kernel
theorem dX12_undo_2 : decode cX12_undo 2 = .ok (.putfield 70, 3) := by decide +kernel
theorem dX12_undo_5 : decode cX12_undo 5 = .ok (.aload_n 0, 1) := by decide +kernel
theorem dX12_undo_6 : decode cX12_undo 6 = .ok (.getfield 385, 3) := by decide +kernel
theorem dX12_undo_9 : decode cX12_undo 9 = .ok (.ifnull 10, 3) := by decide +kernel
theorem dX12_undo_19 : decode cX12_undo 19 = .ok (.aload_n 0, 1) := by decide +kernel
theorem dX12_undo_20 : decode cX12_undo 20 = .ok (.bipush 6, 2) := by decide +kernel
theorem dX12_undo_22 : decode cX12_undo 22 = .ok (.invokevirtual 507, 3) := by decide +kernel
theorem dX12_undo_25 : decode cX12_undo 25 = .ok (.ireturn, 1) := by decide +kernel
theorem dX12_up_0 : decode cX12_up 0 = .ok (.aload_n 0, 1) := by decide +kernel
theorem dX12_up_1 : decode cX12_up 1 = .ok (.iconst 0, 1) := by decide +kernel
theorem dX12_up_2 : decode cX12_up 2 = .ok (.putfield 70, 3) := by decide +kernel
theorem dX12_up_5 : decode cX12_up 5 = .ok (.aload_n 0, 1) := by decide +kernel
theorem dX12_up_6 : decode cX12_up 6 = .ok (.iload_n 1, 1) := by decide +kernel
theorem dX12_up_7 : decode cX12_up 7 = .ok (.invokevirtual 461, 3) := by decide +kernel
theorem dX12_up_10 : decode cX12_up 10 = .ok (.ifCond .ne 9, 3) := by decide +kernel
theorem dX12_up_13 : decode cX12_up 13 = .ok (.aload_n 0, 1) := by decide +kernel
theorem dX12_up_14 : decode cX12_up 14 = .ok (.iconst 1, 1) := by decide +kernel
theorem dX12_up_15 : decode cX12_up 15 = .ok (.invokevirtual 76, 3) := by decide +kernel
theorem dX12_up_18 : decode cX12_up 18 = .ok (.ireturn, 1) := by decide +kernel
theorem dX12_vein_0 : decode cX12_vein 0 = .ok (.aload_n 0, 1) := by decide +kernel
theorem dX12_vein_1 : decode cX12_vein 1 = .ok (.iconst 0, 1) := by decide +kernel
theorem dX12_vein_2 : decode cX12_vein 2 = .ok (.putfield 70, 3) := by decide +kernel
theorem dX12_vein_5 : decode cX12_vein 5 = .ok (.aload_n 0, 1) := by decide +kernel
theorem dX12_vein_6 : decode cX12_vein 6 = .ok (.iload_n 1, 1) := by decide +kernel
theorem dX12_vein_7 : decode cX12_vein 7 = .ok (.invokevirtual 461, 3) := by decide +kernel
theorem dX12_vein_10 : decode cX12_vein 10 = .ok (.ifCond .ne 9, 3) := by decide +kernel
theorem dX12_vein_13 : decode cX12_vein 13 = .ok (.aload_n 0, 1) := by decide +kernel
theorem dX12_vein_14 : decode cX12_vein 14 = .ok (.iconst 1, 1) := by decide +kernel
theorem dX12_vein_15 : decode cX12_vein 15 = .ok (.invokevirtual 76, 3) := by decide +kernel
theorem dX12_vein_18 : decode cX12_vein 18 = .ok (.ireturn, 1) := by decide +kernel
theorem dX12_wake_0 : decode cX12_wake 0 = .ok (.aload_n 0, 1) := by decide +kernel
theorem dX12_wake_1 : decode cX12_wake 1 = .ok (.iconst 0, 1) := by decide +kernel
theorem dX12_wake_2 : decode cX12_wake 2 = .ok (.putfield 70, 3) := by decide +kernel
theorem dX12_wake_5 : decode cX12_wake 5 = .ok (.aload_n 0, 1) := by decide +kernel
theorem dX12_wake_6 : decode cX12_wake 6 = .ok (.getfield 385, 3) := by decide +kernel
theorem dX12_wake_9 : decode cX12_wake 9 = .ok (.ifnonnull 11, 3) := by decide +kernel
theorem dX12_wake_12 : decode cX12_wake 12 = .ok (.aload_n 0, 1) := by decide +kernel
theorem dX12_wake_13 : decode cX12_wake 13 = .ok (.iconst 1, 1) := by decide +kernel
theorem dX12_wake_14 : decode cX12_wake 14 = .ok (.invokevirtual 76, 3) := by decide +kernel
theorem dX12_wake_17 : decode cX12_wake 17 = .ok (.goto 11, 3) := by decide +kernel
theorem dX12_wake_28 : decode cX12_wake 28 = .ok (.ireturn, 1) := by decide +kernel
theorem dX12_wakeTotal_0 : decode cX12_wakeTotal 0 = .ok (.aload_n 0, 1) := by decide +kernel
theorem dX12_wakeTotal_1 : decode cX12_wakeTotal 1 = .ok (.iconst 0, 1) := by decide +kernel
theorem dX12_wakeTotal_2 : decode cX12_wakeTotal 2 = .ok (.putfield 70, 3) := by decide +kernel
theorem dX12_wakeTotal_5 : decode cX12_wakeTotal 5 = .ok (.aload_n 0, 1) := by decide +kernel
theorem dX12_wakeTotal_6 : decode cX12_wakeTotal 6 = .ok (.getfield 385, 3) := by decide +kernel
theorem dX12_wakeTotal_9 : decode cX12_wakeTotal 9 = .ok (.ifnonnull 9, 3) := by decide +kernel
theorem dX12_wakeTotal_12 : decode cX12_wakeTotal 12 = .ok (.aload_n 0, 1) := by decide +kernel
theorem dX12_wakeTotal_13 : decode cX12_wakeTotal 13 = .ok (.iconst 1, 1) := by decide +kernel
theorem dX12_wakeTotal_14 : decode cX12_wakeTotal 14 = .ok (.invokevirtual 458, 3) := by decide +kernel
theorem dX12_wakeTotal_17 : decode cX12_wakeTotal 17 = .ok (.ireturn, 1) := by decide +kernel
theorem dX12_where_0 : decode cX12_where 0 = .ok (.aload_n 0, 1) := by decide +kernel
theorem dX12_where_1 : decode cX12_where 1 = .ok (.iconst 0, 1) := by decide +kernel
theorem dX12_where_2 : decode cX12_where 2 = .ok (.putfield 70, 3) := by decide +kernel
theorem dX12_where_5 : decode cX12_where 5 = .ok (.aload_n 0, 1) := by decide +kernel
theorem dX12_where_6 : decode cX12_where 6 = .ok (.getfield 9, 3) := by decide +kernel
theorem dX12_where_9 : decode cX12_where 9 = .ok (.ireturn, 1) := by decide +kernel
theorem dX12_without_0 : decode cX12_without 0 = .ok (.aload_n 0, 1) := by decide +kernel
theorem dX12_without_1 : decode cX12_without 1 = .ok (.iconst 0, 1) := by decide +kernel
theorem dX12_without_2 : decode cX12_without 2 = .ok (.putfield 70, 3) := by decide +kernel
theorem dX12_without_5 : decode cX12_without 5 = .ok (.aload_n 0, 1) := by decide +kernel
theorem dX12_without_6 : decode cX12_without 6 = .ok (.iload_n 1, 1) := by decide +kernel
theorem dX12_without_7 : decode cX12_without 7 = .ok (.invokevirtual 467, 3) := by decide +kernel
theorem dX12_without_10 : decode cX12_without 10 = .ok (.ifCond .ne 9, 3) := by decide +kernel
theorem dX12_without_13 : decode cX12_without 13 = .ok (.aload_n 0, 1) := by decide +kernel
theorem dX12_without_14 : decode cX12_without 14 = .ok (.iconst 1, 1) := by decide +kernel
theorem dX12_without_15 : decode cX12_without 15 = .ok (.invokevirtual 458, 3) := by decide +kernel
theorem dX12_without_18 : decode cX12_without 18 = .ok (.ireturn, 1) := by decide +kernel
theorem dX12_work_0 : decode cX12_work 0 = .ok (.aload_n 0, 1) := by decide +kernel
theorem dX12_work_1 : decode cX12_work 1 = .ok (.iconst 0, 1) := by decide +kernel
theorem dX12_work_2 : decode cX12_work 2 = .ok (.putfield 70, 3) := by decide +kernel
theorem dX12_work_5 : decode cX12_work 5 = .ok (.aload_n 0, 1) := by decide +kernel
theorem dX12_work_6 : decode cX12_work 6 = .ok (.iload_n 1, 1) := by decide +kernel
theorem dX12_work_7 : decode cX12_work 7 = .ok (.invokevirtual 452, 3) := by decide +kernel
theorem dX12_work_10 : decode cX12_work 10 = .ok (.ifCond .eq 12, 3) := by decide +kernel
theorem dX12_work_22 : decode cX12_work 22 = .ok (.aload_n 0, 1) := by decide +kernel
theorem dX12_work_23 : decode cX12_work 23 = .ok (.iconst 1, 1) := by decide +kernel
theorem dX12_work_24 : decode cX12_work 24 = .ok (.invokevirtual 76, 3) := by decide +kernel
theorem dX12_work_27 : decode cX12_work 27 = .ok (.ireturn, 1) := by decide +kernel
theorem dX12_worth_0 : decode cX12_worth 0 = .ok (.aload_n 0, 1) := by decide +kernel
theorem dX12_worth_1 : decode cX12_worth 1 = .ok (.iconst 0, 1) := by decide +kernel
theorem dX12_worth_2 : decode cX12_worth 2 = .ok (.putfield 70, 3) := by decide +kernel
theorem dX12_worth_5 : decode cX12_worth 5 = .ok (.aload_n 0, 1) := by decide +kernel
theorem dX12_worth_6 : decode cX12_worth 6 = .ok (.iload_n 1, 1) := by decide +kernel
theorem dX12_worth_7 : decode cX12_worth 7 = .ok (.invokevirtual 452, 3) := by decide +kernel
theorem dX12_worth_10 : decode cX12_worth 10 = .ok (.ifCond .ne 9, 3) := by decide +kernel
theorem dX12_worth_13 : decode cX12_worth 13 = .ok (.aload_n 0, 1) := by decide +kernel
theorem dX12_worth_14 : decode cX12_worth 14 = .ok (.iconst 1, 1) := by decide +kernel
theorem dX12_worth_15 : decode cX12_worth 15 = .ok (.invokevirtual 458, 3) := by decide +kernel
theorem dX12_worth_18 : decode cX12_worth 18 = .ok (.ireturn, 1) := by decide +kernel
theorem dX6_goBack_0 : decode cX6_goBack 0 = .ok (.iload_n 2, 1) := by decide +kernel
theorem dX6_goBack_1 : decode cX6_goBack 1 = .ok (.ifCond .lt 11, 3) := by decide +kernel
theorem dX6_goBack_4 : decode cX6_goBack 4 = .ok (.iload_n 2, 1) := by decide +kernel
theorem dX6_goBack_5 : decode cX6_goBack 5 = .ok (.aload_n 0, 1) := by decide +kernel
theorem dX6_goBack_6 : decode cX6_goBack 6 = .ok (.getfield 25, 3) := by decide +kernel
theorem dX6_goBack_9 : decode cX6_goBack 9 = .ok (.if_icmp .lt 5, 3) := by decide +kernel
theorem dX6_goBack_12 : decode cX6_goBack 12 = .ok (.iconst 0, 1) := by decide +kernel
theorem dX6_goBack_13 : decode cX6_goBack 13 = .ok (.ireturn, 1) := by decide +kernel
theorem dX6_takeBack_0 : decode cX6_takeBack 0 = .ok (.aload_n 0, 1) := by decide +kernel
theorem dX6_takeBack_1 : decode cX6_takeBack 1 = .ok (.getfield 21, 3) := by decide +kernel
theorem dX6_takeBack_4 : decode cX6_takeBack 4 = .ok (.ifCond .ne 5, 3) := by decide +kernel
theorem dX6_takeBack_7 : decode cX6_takeBack 7 = .ok (.iconst 0, 1) := by decide +kernel
theorem dX6_takeBack_8 : decode cX6_takeBack 8 = .ok (.ireturn, 1) := by decide +kernel
set_option maxHeartbeats 4000000 in
set_option maxRecDepth 100000 in
theorem fX10_feed (a b c d e : Int32) {l : Launch} {K N : Nat → Nat} {I : cz_I} {R : cz_R} {L : cz_L} (hf : cz_f1 K N I R) : Con l mX10_feed [.ref 0, .int a, .int b, .int c, .int d, .int e] 203 K N I R L (fun r cn' K' N' I' R' _ => r = some (.int (20)) ∧ cn' = 203 ∧ K' = K ∧ N' = N ∧ ∀ k : Nat, 183 ≤ k → I' k = I k ∧ R' k = R k) := by
  obtain ⟨hK, hN, hR, hI⟩ := hf
  refine Con.of (by decide +kernel) rfl (Nat.le_of_ble_eq_true rfl) rfl (fun X1 hX1 zX1 => ?_)
  refine tr_aload_n dX10_feed_0 rfl ?_
  refine tr_getI dX10_feed_1 fl10_71 (hK 0 10 (by decide) kd_0) ?_
  refine tr_topi 0 (hI 0 1 (by decide +kernel)) ?_
  refine tr_bipush (v := 20) dX10_feed_4 (by decide +kernel) ?_
  refine tr_iadd dX10_feed_6 ?_
  refine tr_topi 20 (by decide +kernel) ?_
  refine tr_sipush (v := 900) dX10_feed_7 (by decide +kernel) ?_
  refine tr_icmp_le 15 dX10_feed_10 (by decide) (fun _ => ?_) (fun h => absurd (by decide +kernel) h)
  refine tr_aload_n dX10_feed_15 rfl ?_
  refine tr_iload_n dX10_feed_16 rfl ?_
  refine tr_inVv (M' := mX10_putBytes) (as := [_]) dX10_feed_17 lk10_75 inX10_putBytes seX10_putBytes myX10_putBytes (by decide) ⟨by decide, by decide⟩ rfl (hK 0 10 (by decide) kd_0) (Nat.le_of_ble_eq_true rfl) (by decide) (by decide) (Con.of (by decide +kernel) rfl (Nat.le_of_ble_eq_true rfl) rfl (fun X2 hX2 zX2 => ?_))
  refine tr_bipush (v := 24) dX10_putBytes_0 (by decide +kernel) ?_
  refine tr_istore_n dX10_putBytes_2 (by decide) (by decide) ?_
  refine tr_iload_n dX10_putBytes_3 rfl ?_
  refine tr_if_lt 36 dX10_putBytes_4 (by decide) (fun h => absurd h (by decide +kernel)) (fun _ => ?_)
  refine tr_aload_n dX10_putBytes_7 rfl ?_
  refine tr_getR (x := 1) dX10_putBytes_8 fl10_9 (hK 0 10 (by decide) kd_0) (hR 0 0 (some 1) (by decide +kernel) rf_0_0) ?_
  refine tr_aload_n dX10_putBytes_11 rfl ?_
  refine tr_getI dX10_putBytes_12 fl10_71 (hK 0 10 (by decide) kd_0) ?_
  refine tr_topi 0 (hI 0 1 (by decide +kernel)) ?_
  refine tr_iload_n dX10_putBytes_15 rfl ?_
  refine tr_iload_n dX10_putBytes_16 rfl ?_
  refine tr_ishr dX10_putBytes_17 ?_
  refine tr_i2b dX10_putBytes_18 ?_
  refine tr_bast dX10_putBytes_19 (hK 1 13 (by decide) kd_1) (cz_inl 900 (hN 1 900 (by decide) ln_1) (by decide +kernel)) ?_
  refine tr_aload_n dX10_putBytes_20 rfl ?_
  refine tr_dup dX10_putBytes_21 rfl ?_
  refine tr_getI dX10_putBytes_22 fl10_71 (hK 0 10 (by decide) kd_0) ?_
  refine tr_topi 0 (hI 0 1 (by decide +kernel)) ?_
  refine tr_iconst (v := 1) dX10_putBytes_25 (by decide +kernel) ?_
  refine tr_iadd dX10_putBytes_26 ?_
  refine tr_topi 1 (by decide +kernel) ?_
  refine tr_putI dX10_putBytes_27 fl10_71 (hK 0 10 (by decide) kd_0) (Or.inl rfl) ?_
  refine tr_iinc dX10_putBytes_30 rfl (by decide) ?_
  refine tr_goto 3 dX10_putBytes_33 (by decide) ?_
  refine tr_iload_n dX10_putBytes_3 rfl ?_
  refine tr_if_lt 36 dX10_putBytes_4 (by decide) (fun h => absurd h (by decide +kernel)) (fun _ => ?_)
  refine tr_aload_n dX10_putBytes_7 rfl ?_
  refine tr_getR (x := 1) dX10_putBytes_8 fl10_9 (hK 0 10 (by decide) kd_0) (hR 0 0 (some 1) (by decide +kernel) rf_0_0) ?_
  refine tr_aload_n dX10_putBytes_11 rfl ?_
  refine tr_getI dX10_putBytes_12 fl10_71 (hK 0 10 (by decide) kd_0) ?_
  refine tr_topi 1 rfl ?_
  refine tr_iload_n dX10_putBytes_15 rfl ?_
  refine tr_iload_n dX10_putBytes_16 rfl ?_
  refine tr_ishr dX10_putBytes_17 ?_
  refine tr_i2b dX10_putBytes_18 ?_
  refine tr_bast dX10_putBytes_19 (hK 1 13 (by decide) kd_1) (cz_inl 900 (hN 1 900 (by decide) ln_1) (by decide +kernel)) ?_
  refine tr_aload_n dX10_putBytes_20 rfl ?_
  refine tr_dup dX10_putBytes_21 rfl ?_
  refine tr_getI dX10_putBytes_22 fl10_71 (hK 0 10 (by decide) kd_0) ?_
  refine tr_topi 1 rfl ?_
  refine tr_iconst (v := 1) dX10_putBytes_25 (by decide +kernel) ?_
  refine tr_iadd dX10_putBytes_26 ?_
  refine tr_topi 2 (by decide +kernel) ?_
  refine tr_putI dX10_putBytes_27 fl10_71 (hK 0 10 (by decide) kd_0) (Or.inl rfl) ?_
  refine tr_iinc dX10_putBytes_30 rfl (by decide) ?_
  refine tr_goto 3 dX10_putBytes_33 (by decide) ?_
  refine tr_iload_n dX10_putBytes_3 rfl ?_
  refine tr_if_lt 36 dX10_putBytes_4 (by decide) (fun h => absurd h (by decide +kernel)) (fun _ => ?_)
  refine tr_aload_n dX10_putBytes_7 rfl ?_
  refine tr_getR (x := 1) dX10_putBytes_8 fl10_9 (hK 0 10 (by decide) kd_0) (hR 0 0 (some 1) (by decide +kernel) rf_0_0) ?_
  refine tr_aload_n dX10_putBytes_11 rfl ?_
  refine tr_getI dX10_putBytes_12 fl10_71 (hK 0 10 (by decide) kd_0) ?_
  refine tr_topi 2 rfl ?_
  refine tr_iload_n dX10_putBytes_15 rfl ?_
  refine tr_iload_n dX10_putBytes_16 rfl ?_
  refine tr_ishr dX10_putBytes_17 ?_
  refine tr_i2b dX10_putBytes_18 ?_
  refine tr_bast dX10_putBytes_19 (hK 1 13 (by decide) kd_1) (cz_inl 900 (hN 1 900 (by decide) ln_1) (by decide +kernel)) ?_
  refine tr_aload_n dX10_putBytes_20 rfl ?_
  refine tr_dup dX10_putBytes_21 rfl ?_
  refine tr_getI dX10_putBytes_22 fl10_71 (hK 0 10 (by decide) kd_0) ?_
  refine tr_topi 2 rfl ?_
  refine tr_iconst (v := 1) dX10_putBytes_25 (by decide +kernel) ?_
  refine tr_iadd dX10_putBytes_26 ?_
  refine tr_topi 3 (by decide +kernel) ?_
  refine tr_putI dX10_putBytes_27 fl10_71 (hK 0 10 (by decide) kd_0) (Or.inl rfl) ?_
  refine tr_iinc dX10_putBytes_30 rfl (by decide) ?_
  refine tr_goto 3 dX10_putBytes_33 (by decide) ?_
  refine tr_iload_n dX10_putBytes_3 rfl ?_
  refine tr_if_lt 36 dX10_putBytes_4 (by decide) (fun h => absurd h (by decide +kernel)) (fun _ => ?_)
  refine tr_aload_n dX10_putBytes_7 rfl ?_
  refine tr_getR (x := 1) dX10_putBytes_8 fl10_9 (hK 0 10 (by decide) kd_0) (hR 0 0 (some 1) (by decide +kernel) rf_0_0) ?_
  refine tr_aload_n dX10_putBytes_11 rfl ?_
  refine tr_getI dX10_putBytes_12 fl10_71 (hK 0 10 (by decide) kd_0) ?_
  refine tr_topi 3 rfl ?_
  refine tr_iload_n dX10_putBytes_15 rfl ?_
  refine tr_iload_n dX10_putBytes_16 rfl ?_
  refine tr_ishr dX10_putBytes_17 ?_
  refine tr_i2b dX10_putBytes_18 ?_
  refine tr_bast dX10_putBytes_19 (hK 1 13 (by decide) kd_1) (cz_inl 900 (hN 1 900 (by decide) ln_1) (by decide +kernel)) ?_
  refine tr_aload_n dX10_putBytes_20 rfl ?_
  refine tr_dup dX10_putBytes_21 rfl ?_
  refine tr_getI dX10_putBytes_22 fl10_71 (hK 0 10 (by decide) kd_0) ?_
  refine tr_topi 3 rfl ?_
  refine tr_iconst (v := 1) dX10_putBytes_25 (by decide +kernel) ?_
  refine tr_iadd dX10_putBytes_26 ?_
  refine tr_topi 4 (by decide +kernel) ?_
  refine tr_putI dX10_putBytes_27 fl10_71 (hK 0 10 (by decide) kd_0) (Or.inl rfl) ?_
  refine tr_iinc dX10_putBytes_30 rfl (by decide) ?_
  refine tr_goto 3 dX10_putBytes_33 (by decide) ?_
  refine tr_iload_n dX10_putBytes_3 rfl ?_
  refine tr_if_lt 36 dX10_putBytes_4 (by decide) (fun _ => ?_) (fun h => absurd (by decide +kernel) h)
  refine tr_vret zX2 dX10_putBytes_36 rfl (by decide) (by decide) ⟨rfl, ?_⟩
  refine tr_aload_n dX10_feed_20 rfl ?_
  refine tr_iload_n dX10_feed_21 rfl ?_
  refine tr_inVv (M' := mX10_putBytes) (as := [_]) dX10_feed_22 lk10_75 inX10_putBytes seX10_putBytes myX10_putBytes (by decide) ⟨by decide, by decide⟩ rfl (hK 0 10 (by decide) kd_0) (Nat.le_of_ble_eq_true rfl) (by decide) (by decide) (Con.of (by decide +kernel) rfl (Nat.le_of_ble_eq_true rfl) rfl (fun X3 hX3 zX3 => ?_))
  refine tr_bipush (v := 24) dX10_putBytes_0 (by decide +kernel) ?_
  refine tr_istore_n dX10_putBytes_2 (by decide) (by decide) ?_
  refine tr_iload_n dX10_putBytes_3 rfl ?_
  refine tr_if_lt 36 dX10_putBytes_4 (by decide) (fun h => absurd h (by decide +kernel)) (fun _ => ?_)
  refine tr_aload_n dX10_putBytes_7 rfl ?_
  refine tr_getR (x := 1) dX10_putBytes_8 fl10_9 (hK 0 10 (by decide) kd_0) (hR 0 0 (some 1) (by decide +kernel) rf_0_0) ?_
  refine tr_aload_n dX10_putBytes_11 rfl ?_
  refine tr_getI dX10_putBytes_12 fl10_71 (hK 0 10 (by decide) kd_0) ?_
  refine tr_topi 4 rfl ?_
  refine tr_iload_n dX10_putBytes_15 rfl ?_
  refine tr_iload_n dX10_putBytes_16 rfl ?_
  refine tr_ishr dX10_putBytes_17 ?_
  refine tr_i2b dX10_putBytes_18 ?_
  refine tr_bast dX10_putBytes_19 (hK 1 13 (by decide) kd_1) (cz_inl 900 (hN 1 900 (by decide) ln_1) (by decide +kernel)) ?_
  refine tr_aload_n dX10_putBytes_20 rfl ?_
  refine tr_dup dX10_putBytes_21 rfl ?_
  refine tr_getI dX10_putBytes_22 fl10_71 (hK 0 10 (by decide) kd_0) ?_
  refine tr_topi 4 rfl ?_
  refine tr_iconst (v := 1) dX10_putBytes_25 (by decide +kernel) ?_
  refine tr_iadd dX10_putBytes_26 ?_
  refine tr_topi 5 (by decide +kernel) ?_
  refine tr_putI dX10_putBytes_27 fl10_71 (hK 0 10 (by decide) kd_0) (Or.inl rfl) ?_
  refine tr_iinc dX10_putBytes_30 rfl (by decide) ?_
  refine tr_goto 3 dX10_putBytes_33 (by decide) ?_
  refine tr_iload_n dX10_putBytes_3 rfl ?_
  refine tr_if_lt 36 dX10_putBytes_4 (by decide) (fun h => absurd h (by decide +kernel)) (fun _ => ?_)
  refine tr_aload_n dX10_putBytes_7 rfl ?_
  refine tr_getR (x := 1) dX10_putBytes_8 fl10_9 (hK 0 10 (by decide) kd_0) (hR 0 0 (some 1) (by decide +kernel) rf_0_0) ?_
  refine tr_aload_n dX10_putBytes_11 rfl ?_
  refine tr_getI dX10_putBytes_12 fl10_71 (hK 0 10 (by decide) kd_0) ?_
  refine tr_topi 5 rfl ?_
  refine tr_iload_n dX10_putBytes_15 rfl ?_
  refine tr_iload_n dX10_putBytes_16 rfl ?_
  refine tr_ishr dX10_putBytes_17 ?_
  refine tr_i2b dX10_putBytes_18 ?_
  refine tr_bast dX10_putBytes_19 (hK 1 13 (by decide) kd_1) (cz_inl 900 (hN 1 900 (by decide) ln_1) (by decide +kernel)) ?_
  refine tr_aload_n dX10_putBytes_20 rfl ?_
  refine tr_dup dX10_putBytes_21 rfl ?_
  refine tr_getI dX10_putBytes_22 fl10_71 (hK 0 10 (by decide) kd_0) ?_
  refine tr_topi 5 rfl ?_
  refine tr_iconst (v := 1) dX10_putBytes_25 (by decide +kernel) ?_
  refine tr_iadd dX10_putBytes_26 ?_
  refine tr_topi 6 (by decide +kernel) ?_
  refine tr_putI dX10_putBytes_27 fl10_71 (hK 0 10 (by decide) kd_0) (Or.inl rfl) ?_
  refine tr_iinc dX10_putBytes_30 rfl (by decide) ?_
  refine tr_goto 3 dX10_putBytes_33 (by decide) ?_
  refine tr_iload_n dX10_putBytes_3 rfl ?_
  refine tr_if_lt 36 dX10_putBytes_4 (by decide) (fun h => absurd h (by decide +kernel)) (fun _ => ?_)
  refine tr_aload_n dX10_putBytes_7 rfl ?_
  refine tr_getR (x := 1) dX10_putBytes_8 fl10_9 (hK 0 10 (by decide) kd_0) (hR 0 0 (some 1) (by decide +kernel) rf_0_0) ?_
  refine tr_aload_n dX10_putBytes_11 rfl ?_
  refine tr_getI dX10_putBytes_12 fl10_71 (hK 0 10 (by decide) kd_0) ?_
  refine tr_topi 6 rfl ?_
  refine tr_iload_n dX10_putBytes_15 rfl ?_
  refine tr_iload_n dX10_putBytes_16 rfl ?_
  refine tr_ishr dX10_putBytes_17 ?_
  refine tr_i2b dX10_putBytes_18 ?_
  refine tr_bast dX10_putBytes_19 (hK 1 13 (by decide) kd_1) (cz_inl 900 (hN 1 900 (by decide) ln_1) (by decide +kernel)) ?_
  refine tr_aload_n dX10_putBytes_20 rfl ?_
  refine tr_dup dX10_putBytes_21 rfl ?_
  refine tr_getI dX10_putBytes_22 fl10_71 (hK 0 10 (by decide) kd_0) ?_
  refine tr_topi 6 rfl ?_
  refine tr_iconst (v := 1) dX10_putBytes_25 (by decide +kernel) ?_
  refine tr_iadd dX10_putBytes_26 ?_
  refine tr_topi 7 (by decide +kernel) ?_
  refine tr_putI dX10_putBytes_27 fl10_71 (hK 0 10 (by decide) kd_0) (Or.inl rfl) ?_
  refine tr_iinc dX10_putBytes_30 rfl (by decide) ?_
  refine tr_goto 3 dX10_putBytes_33 (by decide) ?_
  refine tr_iload_n dX10_putBytes_3 rfl ?_
  refine tr_if_lt 36 dX10_putBytes_4 (by decide) (fun h => absurd h (by decide +kernel)) (fun _ => ?_)
  refine tr_aload_n dX10_putBytes_7 rfl ?_
  refine tr_getR (x := 1) dX10_putBytes_8 fl10_9 (hK 0 10 (by decide) kd_0) (hR 0 0 (some 1) (by decide +kernel) rf_0_0) ?_
  refine tr_aload_n dX10_putBytes_11 rfl ?_
  refine tr_getI dX10_putBytes_12 fl10_71 (hK 0 10 (by decide) kd_0) ?_
  refine tr_topi 7 rfl ?_
  refine tr_iload_n dX10_putBytes_15 rfl ?_
  refine tr_iload_n dX10_putBytes_16 rfl ?_
  refine tr_ishr dX10_putBytes_17 ?_
  refine tr_i2b dX10_putBytes_18 ?_
  refine tr_bast dX10_putBytes_19 (hK 1 13 (by decide) kd_1) (cz_inl 900 (hN 1 900 (by decide) ln_1) (by decide +kernel)) ?_
  refine tr_aload_n dX10_putBytes_20 rfl ?_
  refine tr_dup dX10_putBytes_21 rfl ?_
  refine tr_getI dX10_putBytes_22 fl10_71 (hK 0 10 (by decide) kd_0) ?_
  refine tr_topi 7 rfl ?_
  refine tr_iconst (v := 1) dX10_putBytes_25 (by decide +kernel) ?_
  refine tr_iadd dX10_putBytes_26 ?_
  refine tr_topi 8 (by decide +kernel) ?_
  refine tr_putI dX10_putBytes_27 fl10_71 (hK 0 10 (by decide) kd_0) (Or.inl rfl) ?_
  refine tr_iinc dX10_putBytes_30 rfl (by decide) ?_
  refine tr_goto 3 dX10_putBytes_33 (by decide) ?_
  refine tr_iload_n dX10_putBytes_3 rfl ?_
  refine tr_if_lt 36 dX10_putBytes_4 (by decide) (fun _ => ?_) (fun h => absurd (by decide +kernel) h)
  refine tr_vret zX3 dX10_putBytes_36 rfl (by decide) (by decide) ⟨rfl, ?_⟩
  refine tr_aload_n dX10_feed_25 rfl ?_
  refine tr_iload_n dX10_feed_26 rfl ?_
  refine tr_inVv (M' := mX10_putBytes) (as := [_]) dX10_feed_27 lk10_75 inX10_putBytes seX10_putBytes myX10_putBytes (by decide) ⟨by decide, by decide⟩ rfl (hK 0 10 (by decide) kd_0) (Nat.le_of_ble_eq_true rfl) (by decide) (by decide) (Con.of (by decide +kernel) rfl (Nat.le_of_ble_eq_true rfl) rfl (fun X4 hX4 zX4 => ?_))
  refine tr_bipush (v := 24) dX10_putBytes_0 (by decide +kernel) ?_
  refine tr_istore_n dX10_putBytes_2 (by decide) (by decide) ?_
  refine tr_iload_n dX10_putBytes_3 rfl ?_
  refine tr_if_lt 36 dX10_putBytes_4 (by decide) (fun h => absurd h (by decide +kernel)) (fun _ => ?_)
  refine tr_aload_n dX10_putBytes_7 rfl ?_
  refine tr_getR (x := 1) dX10_putBytes_8 fl10_9 (hK 0 10 (by decide) kd_0) (hR 0 0 (some 1) (by decide +kernel) rf_0_0) ?_
  refine tr_aload_n dX10_putBytes_11 rfl ?_
  refine tr_getI dX10_putBytes_12 fl10_71 (hK 0 10 (by decide) kd_0) ?_
  refine tr_topi 8 rfl ?_
  refine tr_iload_n dX10_putBytes_15 rfl ?_
  refine tr_iload_n dX10_putBytes_16 rfl ?_
  refine tr_ishr dX10_putBytes_17 ?_
  refine tr_i2b dX10_putBytes_18 ?_
  refine tr_bast dX10_putBytes_19 (hK 1 13 (by decide) kd_1) (cz_inl 900 (hN 1 900 (by decide) ln_1) (by decide +kernel)) ?_
  refine tr_aload_n dX10_putBytes_20 rfl ?_
  refine tr_dup dX10_putBytes_21 rfl ?_
  refine tr_getI dX10_putBytes_22 fl10_71 (hK 0 10 (by decide) kd_0) ?_
  refine tr_topi 8 rfl ?_
  refine tr_iconst (v := 1) dX10_putBytes_25 (by decide +kernel) ?_
  refine tr_iadd dX10_putBytes_26 ?_
  refine tr_topi 9 (by decide +kernel) ?_
  refine tr_putI dX10_putBytes_27 fl10_71 (hK 0 10 (by decide) kd_0) (Or.inl rfl) ?_
  refine tr_iinc dX10_putBytes_30 rfl (by decide) ?_
  refine tr_goto 3 dX10_putBytes_33 (by decide) ?_
  refine tr_iload_n dX10_putBytes_3 rfl ?_
  refine tr_if_lt 36 dX10_putBytes_4 (by decide) (fun h => absurd h (by decide +kernel)) (fun _ => ?_)
  refine tr_aload_n dX10_putBytes_7 rfl ?_
  refine tr_getR (x := 1) dX10_putBytes_8 fl10_9 (hK 0 10 (by decide) kd_0) (hR 0 0 (some 1) (by decide +kernel) rf_0_0) ?_
  refine tr_aload_n dX10_putBytes_11 rfl ?_
  refine tr_getI dX10_putBytes_12 fl10_71 (hK 0 10 (by decide) kd_0) ?_
  refine tr_topi 9 rfl ?_
  refine tr_iload_n dX10_putBytes_15 rfl ?_
  refine tr_iload_n dX10_putBytes_16 rfl ?_
  refine tr_ishr dX10_putBytes_17 ?_
  refine tr_i2b dX10_putBytes_18 ?_
  refine tr_bast dX10_putBytes_19 (hK 1 13 (by decide) kd_1) (cz_inl 900 (hN 1 900 (by decide) ln_1) (by decide +kernel)) ?_
  refine tr_aload_n dX10_putBytes_20 rfl ?_
  refine tr_dup dX10_putBytes_21 rfl ?_
  refine tr_getI dX10_putBytes_22 fl10_71 (hK 0 10 (by decide) kd_0) ?_
  refine tr_topi 9 rfl ?_
  refine tr_iconst (v := 1) dX10_putBytes_25 (by decide +kernel) ?_
  refine tr_iadd dX10_putBytes_26 ?_
  refine tr_topi 10 (by decide +kernel) ?_
  refine tr_putI dX10_putBytes_27 fl10_71 (hK 0 10 (by decide) kd_0) (Or.inl rfl) ?_
  refine tr_iinc dX10_putBytes_30 rfl (by decide) ?_
  refine tr_goto 3 dX10_putBytes_33 (by decide) ?_
  refine tr_iload_n dX10_putBytes_3 rfl ?_
  refine tr_if_lt 36 dX10_putBytes_4 (by decide) (fun h => absurd h (by decide +kernel)) (fun _ => ?_)
  refine tr_aload_n dX10_putBytes_7 rfl ?_
  refine tr_getR (x := 1) dX10_putBytes_8 fl10_9 (hK 0 10 (by decide) kd_0) (hR 0 0 (some 1) (by decide +kernel) rf_0_0) ?_
  refine tr_aload_n dX10_putBytes_11 rfl ?_
  refine tr_getI dX10_putBytes_12 fl10_71 (hK 0 10 (by decide) kd_0) ?_
  refine tr_topi 10 rfl ?_
  refine tr_iload_n dX10_putBytes_15 rfl ?_
  refine tr_iload_n dX10_putBytes_16 rfl ?_
  refine tr_ishr dX10_putBytes_17 ?_
  refine tr_i2b dX10_putBytes_18 ?_
  refine tr_bast dX10_putBytes_19 (hK 1 13 (by decide) kd_1) (cz_inl 900 (hN 1 900 (by decide) ln_1) (by decide +kernel)) ?_
  refine tr_aload_n dX10_putBytes_20 rfl ?_
  refine tr_dup dX10_putBytes_21 rfl ?_
  refine tr_getI dX10_putBytes_22 fl10_71 (hK 0 10 (by decide) kd_0) ?_
  refine tr_topi 10 rfl ?_
  refine tr_iconst (v := 1) dX10_putBytes_25 (by decide +kernel) ?_
  refine tr_iadd dX10_putBytes_26 ?_
  refine tr_topi 11 (by decide +kernel) ?_
  refine tr_putI dX10_putBytes_27 fl10_71 (hK 0 10 (by decide) kd_0) (Or.inl rfl) ?_
  refine tr_iinc dX10_putBytes_30 rfl (by decide) ?_
  refine tr_goto 3 dX10_putBytes_33 (by decide) ?_
  refine tr_iload_n dX10_putBytes_3 rfl ?_
  refine tr_if_lt 36 dX10_putBytes_4 (by decide) (fun h => absurd h (by decide +kernel)) (fun _ => ?_)
  refine tr_aload_n dX10_putBytes_7 rfl ?_
  refine tr_getR (x := 1) dX10_putBytes_8 fl10_9 (hK 0 10 (by decide) kd_0) (hR 0 0 (some 1) (by decide +kernel) rf_0_0) ?_
  refine tr_aload_n dX10_putBytes_11 rfl ?_
  refine tr_getI dX10_putBytes_12 fl10_71 (hK 0 10 (by decide) kd_0) ?_
  refine tr_topi 11 rfl ?_
  refine tr_iload_n dX10_putBytes_15 rfl ?_
  refine tr_iload_n dX10_putBytes_16 rfl ?_
  refine tr_ishr dX10_putBytes_17 ?_
  refine tr_i2b dX10_putBytes_18 ?_
  refine tr_bast dX10_putBytes_19 (hK 1 13 (by decide) kd_1) (cz_inl 900 (hN 1 900 (by decide) ln_1) (by decide +kernel)) ?_
  refine tr_aload_n dX10_putBytes_20 rfl ?_
  refine tr_dup dX10_putBytes_21 rfl ?_
  refine tr_getI dX10_putBytes_22 fl10_71 (hK 0 10 (by decide) kd_0) ?_
  refine tr_topi 11 rfl ?_
  refine tr_iconst (v := 1) dX10_putBytes_25 (by decide +kernel) ?_
  refine tr_iadd dX10_putBytes_26 ?_
  refine tr_topi 12 (by decide +kernel) ?_
  refine tr_putI dX10_putBytes_27 fl10_71 (hK 0 10 (by decide) kd_0) (Or.inl rfl) ?_
  refine tr_iinc dX10_putBytes_30 rfl (by decide) ?_
  refine tr_goto 3 dX10_putBytes_33 (by decide) ?_
  refine tr_iload_n dX10_putBytes_3 rfl ?_
  refine tr_if_lt 36 dX10_putBytes_4 (by decide) (fun _ => ?_) (fun h => absurd (by decide +kernel) h)
  refine tr_vret zX4 dX10_putBytes_36 rfl (by decide) (by decide) ⟨rfl, ?_⟩
  refine tr_aload_n dX10_feed_30 rfl ?_
  refine tr_iload dX10_feed_31 rfl ?_
  refine tr_inVv (M' := mX10_putBytes) (as := [_]) dX10_feed_33 lk10_75 inX10_putBytes seX10_putBytes myX10_putBytes (by decide) ⟨by decide, by decide⟩ rfl (hK 0 10 (by decide) kd_0) (Nat.le_of_ble_eq_true rfl) (by decide) (by decide) (Con.of (by decide +kernel) rfl (Nat.le_of_ble_eq_true rfl) rfl (fun X5 hX5 zX5 => ?_))
  refine tr_bipush (v := 24) dX10_putBytes_0 (by decide +kernel) ?_
  refine tr_istore_n dX10_putBytes_2 (by decide) (by decide) ?_
  refine tr_iload_n dX10_putBytes_3 rfl ?_
  refine tr_if_lt 36 dX10_putBytes_4 (by decide) (fun h => absurd h (by decide +kernel)) (fun _ => ?_)
  refine tr_aload_n dX10_putBytes_7 rfl ?_
  refine tr_getR (x := 1) dX10_putBytes_8 fl10_9 (hK 0 10 (by decide) kd_0) (hR 0 0 (some 1) (by decide +kernel) rf_0_0) ?_
  refine tr_aload_n dX10_putBytes_11 rfl ?_
  refine tr_getI dX10_putBytes_12 fl10_71 (hK 0 10 (by decide) kd_0) ?_
  refine tr_topi 12 rfl ?_
  refine tr_iload_n dX10_putBytes_15 rfl ?_
  refine tr_iload_n dX10_putBytes_16 rfl ?_
  refine tr_ishr dX10_putBytes_17 ?_
  refine tr_i2b dX10_putBytes_18 ?_
  refine tr_bast dX10_putBytes_19 (hK 1 13 (by decide) kd_1) (cz_inl 900 (hN 1 900 (by decide) ln_1) (by decide +kernel)) ?_
  refine tr_aload_n dX10_putBytes_20 rfl ?_
  refine tr_dup dX10_putBytes_21 rfl ?_
  refine tr_getI dX10_putBytes_22 fl10_71 (hK 0 10 (by decide) kd_0) ?_
  refine tr_topi 12 rfl ?_
  refine tr_iconst (v := 1) dX10_putBytes_25 (by decide +kernel) ?_
  refine tr_iadd dX10_putBytes_26 ?_
  refine tr_topi 13 (by decide +kernel) ?_
  refine tr_putI dX10_putBytes_27 fl10_71 (hK 0 10 (by decide) kd_0) (Or.inl rfl) ?_
  refine tr_iinc dX10_putBytes_30 rfl (by decide) ?_
  refine tr_goto 3 dX10_putBytes_33 (by decide) ?_
  refine tr_iload_n dX10_putBytes_3 rfl ?_
  refine tr_if_lt 36 dX10_putBytes_4 (by decide) (fun h => absurd h (by decide +kernel)) (fun _ => ?_)
  refine tr_aload_n dX10_putBytes_7 rfl ?_
  refine tr_getR (x := 1) dX10_putBytes_8 fl10_9 (hK 0 10 (by decide) kd_0) (hR 0 0 (some 1) (by decide +kernel) rf_0_0) ?_
  refine tr_aload_n dX10_putBytes_11 rfl ?_
  refine tr_getI dX10_putBytes_12 fl10_71 (hK 0 10 (by decide) kd_0) ?_
  refine tr_topi 13 rfl ?_
  refine tr_iload_n dX10_putBytes_15 rfl ?_
  refine tr_iload_n dX10_putBytes_16 rfl ?_
  refine tr_ishr dX10_putBytes_17 ?_
  refine tr_i2b dX10_putBytes_18 ?_
  refine tr_bast dX10_putBytes_19 (hK 1 13 (by decide) kd_1) (cz_inl 900 (hN 1 900 (by decide) ln_1) (by decide +kernel)) ?_
  refine tr_aload_n dX10_putBytes_20 rfl ?_
  refine tr_dup dX10_putBytes_21 rfl ?_
  refine tr_getI dX10_putBytes_22 fl10_71 (hK 0 10 (by decide) kd_0) ?_
  refine tr_topi 13 rfl ?_
  refine tr_iconst (v := 1) dX10_putBytes_25 (by decide +kernel) ?_
  refine tr_iadd dX10_putBytes_26 ?_
  refine tr_topi 14 (by decide +kernel) ?_
  refine tr_putI dX10_putBytes_27 fl10_71 (hK 0 10 (by decide) kd_0) (Or.inl rfl) ?_
  refine tr_iinc dX10_putBytes_30 rfl (by decide) ?_
  refine tr_goto 3 dX10_putBytes_33 (by decide) ?_
  refine tr_iload_n dX10_putBytes_3 rfl ?_
  refine tr_if_lt 36 dX10_putBytes_4 (by decide) (fun h => absurd h (by decide +kernel)) (fun _ => ?_)
  refine tr_aload_n dX10_putBytes_7 rfl ?_
  refine tr_getR (x := 1) dX10_putBytes_8 fl10_9 (hK 0 10 (by decide) kd_0) (hR 0 0 (some 1) (by decide +kernel) rf_0_0) ?_
  refine tr_aload_n dX10_putBytes_11 rfl ?_
  refine tr_getI dX10_putBytes_12 fl10_71 (hK 0 10 (by decide) kd_0) ?_
  refine tr_topi 14 rfl ?_
  refine tr_iload_n dX10_putBytes_15 rfl ?_
  refine tr_iload_n dX10_putBytes_16 rfl ?_
  refine tr_ishr dX10_putBytes_17 ?_
  refine tr_i2b dX10_putBytes_18 ?_
  refine tr_bast dX10_putBytes_19 (hK 1 13 (by decide) kd_1) (cz_inl 900 (hN 1 900 (by decide) ln_1) (by decide +kernel)) ?_
  refine tr_aload_n dX10_putBytes_20 rfl ?_
  refine tr_dup dX10_putBytes_21 rfl ?_
  refine tr_getI dX10_putBytes_22 fl10_71 (hK 0 10 (by decide) kd_0) ?_
  refine tr_topi 14 rfl ?_
  refine tr_iconst (v := 1) dX10_putBytes_25 (by decide +kernel) ?_
  refine tr_iadd dX10_putBytes_26 ?_
  refine tr_topi 15 (by decide +kernel) ?_
  refine tr_putI dX10_putBytes_27 fl10_71 (hK 0 10 (by decide) kd_0) (Or.inl rfl) ?_
  refine tr_iinc dX10_putBytes_30 rfl (by decide) ?_
  refine tr_goto 3 dX10_putBytes_33 (by decide) ?_
  refine tr_iload_n dX10_putBytes_3 rfl ?_
  refine tr_if_lt 36 dX10_putBytes_4 (by decide) (fun h => absurd h (by decide +kernel)) (fun _ => ?_)
  refine tr_aload_n dX10_putBytes_7 rfl ?_
  refine tr_getR (x := 1) dX10_putBytes_8 fl10_9 (hK 0 10 (by decide) kd_0) (hR 0 0 (some 1) (by decide +kernel) rf_0_0) ?_
  refine tr_aload_n dX10_putBytes_11 rfl ?_
  refine tr_getI dX10_putBytes_12 fl10_71 (hK 0 10 (by decide) kd_0) ?_
  refine tr_topi 15 rfl ?_
  refine tr_iload_n dX10_putBytes_15 rfl ?_
  refine tr_iload_n dX10_putBytes_16 rfl ?_
  refine tr_ishr dX10_putBytes_17 ?_
  refine tr_i2b dX10_putBytes_18 ?_
  refine tr_bast dX10_putBytes_19 (hK 1 13 (by decide) kd_1) (cz_inl 900 (hN 1 900 (by decide) ln_1) (by decide +kernel)) ?_
  refine tr_aload_n dX10_putBytes_20 rfl ?_
  refine tr_dup dX10_putBytes_21 rfl ?_
  refine tr_getI dX10_putBytes_22 fl10_71 (hK 0 10 (by decide) kd_0) ?_
  refine tr_topi 15 rfl ?_
  refine tr_iconst (v := 1) dX10_putBytes_25 (by decide +kernel) ?_
  refine tr_iadd dX10_putBytes_26 ?_
  refine tr_topi 16 (by decide +kernel) ?_
  refine tr_putI dX10_putBytes_27 fl10_71 (hK 0 10 (by decide) kd_0) (Or.inl rfl) ?_
  refine tr_iinc dX10_putBytes_30 rfl (by decide) ?_
  refine tr_goto 3 dX10_putBytes_33 (by decide) ?_
  refine tr_iload_n dX10_putBytes_3 rfl ?_
  refine tr_if_lt 36 dX10_putBytes_4 (by decide) (fun _ => ?_) (fun h => absurd (by decide +kernel) h)
  refine tr_vret zX5 dX10_putBytes_36 rfl (by decide) (by decide) ⟨rfl, ?_⟩
  refine tr_aload_n dX10_feed_36 rfl ?_
  refine tr_iload dX10_feed_37 rfl ?_
  refine tr_inVv (M' := mX10_putBytes) (as := [_]) dX10_feed_39 lk10_75 inX10_putBytes seX10_putBytes myX10_putBytes (by decide) ⟨by decide, by decide⟩ rfl (hK 0 10 (by decide) kd_0) (Nat.le_of_ble_eq_true rfl) (by decide) (by decide) (Con.of (by decide +kernel) rfl (Nat.le_of_ble_eq_true rfl) rfl (fun X6 hX6 zX6 => ?_))
  refine tr_bipush (v := 24) dX10_putBytes_0 (by decide +kernel) ?_
  refine tr_istore_n dX10_putBytes_2 (by decide) (by decide) ?_
  refine tr_iload_n dX10_putBytes_3 rfl ?_
  refine tr_if_lt 36 dX10_putBytes_4 (by decide) (fun h => absurd h (by decide +kernel)) (fun _ => ?_)
  refine tr_aload_n dX10_putBytes_7 rfl ?_
  refine tr_getR (x := 1) dX10_putBytes_8 fl10_9 (hK 0 10 (by decide) kd_0) (hR 0 0 (some 1) (by decide +kernel) rf_0_0) ?_
  refine tr_aload_n dX10_putBytes_11 rfl ?_
  refine tr_getI dX10_putBytes_12 fl10_71 (hK 0 10 (by decide) kd_0) ?_
  refine tr_topi 16 rfl ?_
  refine tr_iload_n dX10_putBytes_15 rfl ?_
  refine tr_iload_n dX10_putBytes_16 rfl ?_
  refine tr_ishr dX10_putBytes_17 ?_
  refine tr_i2b dX10_putBytes_18 ?_
  refine tr_bast dX10_putBytes_19 (hK 1 13 (by decide) kd_1) (cz_inl 900 (hN 1 900 (by decide) ln_1) (by decide +kernel)) ?_
  refine tr_aload_n dX10_putBytes_20 rfl ?_
  refine tr_dup dX10_putBytes_21 rfl ?_
  refine tr_getI dX10_putBytes_22 fl10_71 (hK 0 10 (by decide) kd_0) ?_
  refine tr_topi 16 rfl ?_
  refine tr_iconst (v := 1) dX10_putBytes_25 (by decide +kernel) ?_
  refine tr_iadd dX10_putBytes_26 ?_
  refine tr_topi 17 (by decide +kernel) ?_
  refine tr_putI dX10_putBytes_27 fl10_71 (hK 0 10 (by decide) kd_0) (Or.inl rfl) ?_
  refine tr_iinc dX10_putBytes_30 rfl (by decide) ?_
  refine tr_goto 3 dX10_putBytes_33 (by decide) ?_
  refine tr_iload_n dX10_putBytes_3 rfl ?_
  refine tr_if_lt 36 dX10_putBytes_4 (by decide) (fun h => absurd h (by decide +kernel)) (fun _ => ?_)
  refine tr_aload_n dX10_putBytes_7 rfl ?_
  refine tr_getR (x := 1) dX10_putBytes_8 fl10_9 (hK 0 10 (by decide) kd_0) (hR 0 0 (some 1) (by decide +kernel) rf_0_0) ?_
  refine tr_aload_n dX10_putBytes_11 rfl ?_
  refine tr_getI dX10_putBytes_12 fl10_71 (hK 0 10 (by decide) kd_0) ?_
  refine tr_topi 17 rfl ?_
  refine tr_iload_n dX10_putBytes_15 rfl ?_
  refine tr_iload_n dX10_putBytes_16 rfl ?_
  refine tr_ishr dX10_putBytes_17 ?_
  refine tr_i2b dX10_putBytes_18 ?_
  refine tr_bast dX10_putBytes_19 (hK 1 13 (by decide) kd_1) (cz_inl 900 (hN 1 900 (by decide) ln_1) (by decide +kernel)) ?_
  refine tr_aload_n dX10_putBytes_20 rfl ?_
  refine tr_dup dX10_putBytes_21 rfl ?_
  refine tr_getI dX10_putBytes_22 fl10_71 (hK 0 10 (by decide) kd_0) ?_
  refine tr_topi 17 rfl ?_
  refine tr_iconst (v := 1) dX10_putBytes_25 (by decide +kernel) ?_
  refine tr_iadd dX10_putBytes_26 ?_
  refine tr_topi 18 (by decide +kernel) ?_
  refine tr_putI dX10_putBytes_27 fl10_71 (hK 0 10 (by decide) kd_0) (Or.inl rfl) ?_
  refine tr_iinc dX10_putBytes_30 rfl (by decide) ?_
  refine tr_goto 3 dX10_putBytes_33 (by decide) ?_
  refine tr_iload_n dX10_putBytes_3 rfl ?_
  refine tr_if_lt 36 dX10_putBytes_4 (by decide) (fun h => absurd h (by decide +kernel)) (fun _ => ?_)
  refine tr_aload_n dX10_putBytes_7 rfl ?_
  refine tr_getR (x := 1) dX10_putBytes_8 fl10_9 (hK 0 10 (by decide) kd_0) (hR 0 0 (some 1) (by decide +kernel) rf_0_0) ?_
  refine tr_aload_n dX10_putBytes_11 rfl ?_
  refine tr_getI dX10_putBytes_12 fl10_71 (hK 0 10 (by decide) kd_0) ?_
  refine tr_topi 18 rfl ?_
  refine tr_iload_n dX10_putBytes_15 rfl ?_
  refine tr_iload_n dX10_putBytes_16 rfl ?_
  refine tr_ishr dX10_putBytes_17 ?_
  refine tr_i2b dX10_putBytes_18 ?_
  refine tr_bast dX10_putBytes_19 (hK 1 13 (by decide) kd_1) (cz_inl 900 (hN 1 900 (by decide) ln_1) (by decide +kernel)) ?_
  refine tr_aload_n dX10_putBytes_20 rfl ?_
  refine tr_dup dX10_putBytes_21 rfl ?_
  refine tr_getI dX10_putBytes_22 fl10_71 (hK 0 10 (by decide) kd_0) ?_
  refine tr_topi 18 rfl ?_
  refine tr_iconst (v := 1) dX10_putBytes_25 (by decide +kernel) ?_
  refine tr_iadd dX10_putBytes_26 ?_
  refine tr_topi 19 (by decide +kernel) ?_
  refine tr_putI dX10_putBytes_27 fl10_71 (hK 0 10 (by decide) kd_0) (Or.inl rfl) ?_
  refine tr_iinc dX10_putBytes_30 rfl (by decide) ?_
  refine tr_goto 3 dX10_putBytes_33 (by decide) ?_
  refine tr_iload_n dX10_putBytes_3 rfl ?_
  refine tr_if_lt 36 dX10_putBytes_4 (by decide) (fun h => absurd h (by decide +kernel)) (fun _ => ?_)
  refine tr_aload_n dX10_putBytes_7 rfl ?_
  refine tr_getR (x := 1) dX10_putBytes_8 fl10_9 (hK 0 10 (by decide) kd_0) (hR 0 0 (some 1) (by decide +kernel) rf_0_0) ?_
  refine tr_aload_n dX10_putBytes_11 rfl ?_
  refine tr_getI dX10_putBytes_12 fl10_71 (hK 0 10 (by decide) kd_0) ?_
  refine tr_topi 19 rfl ?_
  refine tr_iload_n dX10_putBytes_15 rfl ?_
  refine tr_iload_n dX10_putBytes_16 rfl ?_
  refine tr_ishr dX10_putBytes_17 ?_
  refine tr_i2b dX10_putBytes_18 ?_
  refine tr_bast dX10_putBytes_19 (hK 1 13 (by decide) kd_1) (cz_inl 900 (hN 1 900 (by decide) ln_1) (by decide +kernel)) ?_
  refine tr_aload_n dX10_putBytes_20 rfl ?_
  refine tr_dup dX10_putBytes_21 rfl ?_
  refine tr_getI dX10_putBytes_22 fl10_71 (hK 0 10 (by decide) kd_0) ?_
  refine tr_topi 19 rfl ?_
  refine tr_iconst (v := 1) dX10_putBytes_25 (by decide +kernel) ?_
  refine tr_iadd dX10_putBytes_26 ?_
  refine tr_topi 20 (by decide +kernel) ?_
  refine tr_putI dX10_putBytes_27 fl10_71 (hK 0 10 (by decide) kd_0) (Or.inl rfl) ?_
  refine tr_iinc dX10_putBytes_30 rfl (by decide) ?_
  refine tr_goto 3 dX10_putBytes_33 (by decide) ?_
  refine tr_iload_n dX10_putBytes_3 rfl ?_
  refine tr_if_lt 36 dX10_putBytes_4 (by decide) (fun _ => ?_) (fun h => absurd (by decide +kernel) h)
  refine tr_vret zX6 dX10_putBytes_36 rfl (by decide) (by decide) ⟨rfl, ?_⟩
  refine tr_aload_n dX10_feed_42 rfl ?_
  refine tr_getI dX10_feed_43 fl10_71 (hK 0 10 (by decide) kd_0) ?_
  refine tr_topi 20 rfl ?_
  exact tr_iret zX1 dX10_feed_46 rfl (by decide) (by decide) ⟨rfl, rfl, rfl, rfl, fun k hk => ⟨by first | rfl | (repeat rw [cz_uIn (by omega)]), by first | rfl | (repeat rw [cz_uRn (by omega)])⟩⟩
set_option maxHeartbeats 4000000 in
set_option maxRecDepth 100000 in
theorem fX12_feed (a b c d e : Int32) {l : Launch} {K N : Nat → Nat} {I : cz_I} {R : cz_R} {L : cz_L} (hf : cz_f2 K N I R) : Con l mX12_feed [.ref 183, .int a, .int b, .int c, .int d, .int e] 203 K N I R L (fun r _ _ _ _ _ _ => r = some (.int (20))) := by
  obtain ⟨hK, hN, hR, hI, hI2⟩ := hf
  refine Con.of (by decide +kernel) rfl (Nat.le_of_ble_eq_true rfl) rfl (fun X7 hX7 zX7 => ?_)
  refine tr_aload_n dX12_feed_0 rfl ?_
  refine tr_iconst (v := 0) dX12_feed_1 (by decide +kernel) ?_
  refine tr_putI dX12_feed_2 fl12_70 (hK 183 12 (by decide) kd_183) (Or.inl rfl) ?_
  refine tr_aload_n dX12_feed_5 rfl ?_
  refine tr_getI dX12_feed_6 fl12_378 (hK 183 12 (by decide) kd_183) ?_
  refine tr_topi 0 (hI 183 6 (by decide +kernel)) ?_
  refine tr_bipush (v := 20) dX12_feed_9 (by decide +kernel) ?_
  refine tr_iadd dX12_feed_11 ?_
  refine tr_topi 20 (by decide +kernel) ?_
  refine tr_sipush (v := 900) dX12_feed_12 (by decide +kernel) ?_
  refine tr_icmp_le 20 dX12_feed_15 (by decide) (fun _ => ?_) (fun h => absurd (by decide +kernel) h)
  refine tr_iconst (v := 0) dX12_feed_20 (by decide +kernel) ?_
  refine tr_istore dX12_feed_21 (by decide) (by decide) ?_
  refine tr_iload dX12_feed_23 rfl ?_
  refine tr_bipush (v := 20) dX12_feed_25 (by decide +kernel) ?_
  refine tr_icmp_ge 117 dX12_feed_27 (by decide) (fun h => absurd h (by decide +kernel)) (fun _ => ?_)
  refine tr_iload dX12_feed_30 rfl ?_
  refine tr_iconst (v := 4) dX12_feed_32 (by decide +kernel) ?_
  refine tr_icmp_ge 40 dX12_feed_33 (by decide) (fun h => absurd h (by decide +kernel)) (fun _ => ?_)
  refine tr_iload_n dX12_feed_36 rfl ?_
  refine tr_goto 76 dX12_feed_37 (by decide) ?_
  refine tr_istore dX12_feed_76 (by decide) (by decide) ?_
  refine tr_aload_n dX12_feed_78 rfl ?_
  refine tr_getR (x := 184) dX12_feed_79 fl12_13 (hK 183 12 (by decide) kd_183) (hR 183 5 (some 184) (by decide +kernel) rf_183_5) ?_
  refine tr_aload_n dX12_feed_82 rfl ?_
  refine tr_getI dX12_feed_83 fl12_378 (hK 183 12 (by decide) kd_183) ?_
  refine tr_topi 0 (hI 183 6 (by decide +kernel)) ?_
  refine tr_iload dX12_feed_86 rfl ?_
  refine tr_bipush (v := 24) dX12_feed_88 (by decide +kernel) ?_
  refine tr_bipush (v := 8) dX12_feed_90 (by decide +kernel) ?_
  refine tr_iload dX12_feed_92 rfl ?_
  refine tr_iconst (v := 4) dX12_feed_94 (by decide +kernel) ?_
  refine tr_irem dX12_feed_95 (by decide +kernel) ?_
  refine tr_topi 0 (by decide +kernel) ?_
  refine tr_imul dX12_feed_96 ?_
  refine tr_topi 0 (by decide +kernel) ?_
  refine tr_isub dX12_feed_97 ?_
  refine tr_topi 24 (by decide +kernel) ?_
  refine tr_ishr dX12_feed_98 ?_
  refine tr_i2b dX12_feed_99 ?_
  refine tr_bast dX12_feed_100 (hK 184 13 (by decide) kd_184) (cz_inl 900 (hN 184 900 (by decide) ln_184) (by decide +kernel)) ?_
  refine tr_aload_n dX12_feed_101 rfl ?_
  refine tr_dup dX12_feed_102 rfl ?_
  refine tr_getI dX12_feed_103 fl12_378 (hK 183 12 (by decide) kd_183) ?_
  refine tr_topi 0 (hI 183 6 (by decide +kernel)) ?_
  refine tr_iconst (v := 1) dX12_feed_106 (by decide +kernel) ?_
  refine tr_iadd dX12_feed_107 ?_
  refine tr_topi 1 (by decide +kernel) ?_
  refine tr_putI dX12_feed_108 fl12_378 (hK 183 12 (by decide) kd_183) (Or.inl rfl) ?_
  refine tr_iinc dX12_feed_111 rfl (by decide) ?_
  refine tr_goto 23 dX12_feed_114 (by decide) ?_
  refine tr_iload dX12_feed_23 rfl ?_
  refine tr_bipush (v := 20) dX12_feed_25 (by decide +kernel) ?_
  refine tr_icmp_ge 117 dX12_feed_27 (by decide) (fun h => absurd h (by decide +kernel)) (fun _ => ?_)
  refine tr_iload dX12_feed_30 rfl ?_
  refine tr_iconst (v := 4) dX12_feed_32 (by decide +kernel) ?_
  refine tr_icmp_ge 40 dX12_feed_33 (by decide) (fun h => absurd h (by decide +kernel)) (fun _ => ?_)
  refine tr_iload_n dX12_feed_36 rfl ?_
  refine tr_goto 76 dX12_feed_37 (by decide) ?_
  refine tr_istore dX12_feed_76 (by decide) (by decide) ?_
  refine tr_aload_n dX12_feed_78 rfl ?_
  refine tr_getR (x := 184) dX12_feed_79 fl12_13 (hK 183 12 (by decide) kd_183) (hR 183 5 (some 184) (by decide +kernel) rf_183_5) ?_
  refine tr_aload_n dX12_feed_82 rfl ?_
  refine tr_getI dX12_feed_83 fl12_378 (hK 183 12 (by decide) kd_183) ?_
  refine tr_topi 1 rfl ?_
  refine tr_iload dX12_feed_86 rfl ?_
  refine tr_bipush (v := 24) dX12_feed_88 (by decide +kernel) ?_
  refine tr_bipush (v := 8) dX12_feed_90 (by decide +kernel) ?_
  refine tr_iload dX12_feed_92 rfl ?_
  refine tr_iconst (v := 4) dX12_feed_94 (by decide +kernel) ?_
  refine tr_irem dX12_feed_95 (by decide +kernel) ?_
  refine tr_topi 1 (by decide +kernel) ?_
  refine tr_imul dX12_feed_96 ?_
  refine tr_topi 8 (by decide +kernel) ?_
  refine tr_isub dX12_feed_97 ?_
  refine tr_topi 16 (by decide +kernel) ?_
  refine tr_ishr dX12_feed_98 ?_
  refine tr_i2b dX12_feed_99 ?_
  refine tr_bast dX12_feed_100 (hK 184 13 (by decide) kd_184) (cz_inl 900 (hN 184 900 (by decide) ln_184) (by decide +kernel)) ?_
  refine tr_aload_n dX12_feed_101 rfl ?_
  refine tr_dup dX12_feed_102 rfl ?_
  refine tr_getI dX12_feed_103 fl12_378 (hK 183 12 (by decide) kd_183) ?_
  refine tr_topi 1 rfl ?_
  refine tr_iconst (v := 1) dX12_feed_106 (by decide +kernel) ?_
  refine tr_iadd dX12_feed_107 ?_
  refine tr_topi 2 (by decide +kernel) ?_
  refine tr_putI dX12_feed_108 fl12_378 (hK 183 12 (by decide) kd_183) (Or.inl rfl) ?_
  refine tr_iinc dX12_feed_111 rfl (by decide) ?_
  refine tr_goto 23 dX12_feed_114 (by decide) ?_
  refine tr_iload dX12_feed_23 rfl ?_
  refine tr_bipush (v := 20) dX12_feed_25 (by decide +kernel) ?_
  refine tr_icmp_ge 117 dX12_feed_27 (by decide) (fun h => absurd h (by decide +kernel)) (fun _ => ?_)
  refine tr_iload dX12_feed_30 rfl ?_
  refine tr_iconst (v := 4) dX12_feed_32 (by decide +kernel) ?_
  refine tr_icmp_ge 40 dX12_feed_33 (by decide) (fun h => absurd h (by decide +kernel)) (fun _ => ?_)
  refine tr_iload_n dX12_feed_36 rfl ?_
  refine tr_goto 76 dX12_feed_37 (by decide) ?_
  refine tr_istore dX12_feed_76 (by decide) (by decide) ?_
  refine tr_aload_n dX12_feed_78 rfl ?_
  refine tr_getR (x := 184) dX12_feed_79 fl12_13 (hK 183 12 (by decide) kd_183) (hR 183 5 (some 184) (by decide +kernel) rf_183_5) ?_
  refine tr_aload_n dX12_feed_82 rfl ?_
  refine tr_getI dX12_feed_83 fl12_378 (hK 183 12 (by decide) kd_183) ?_
  refine tr_topi 2 rfl ?_
  refine tr_iload dX12_feed_86 rfl ?_
  refine tr_bipush (v := 24) dX12_feed_88 (by decide +kernel) ?_
  refine tr_bipush (v := 8) dX12_feed_90 (by decide +kernel) ?_
  refine tr_iload dX12_feed_92 rfl ?_
  refine tr_iconst (v := 4) dX12_feed_94 (by decide +kernel) ?_
  refine tr_irem dX12_feed_95 (by decide +kernel) ?_
  refine tr_topi 2 (by decide +kernel) ?_
  refine tr_imul dX12_feed_96 ?_
  refine tr_topi 16 (by decide +kernel) ?_
  refine tr_isub dX12_feed_97 ?_
  refine tr_topi 8 (by decide +kernel) ?_
  refine tr_ishr dX12_feed_98 ?_
  refine tr_i2b dX12_feed_99 ?_
  refine tr_bast dX12_feed_100 (hK 184 13 (by decide) kd_184) (cz_inl 900 (hN 184 900 (by decide) ln_184) (by decide +kernel)) ?_
  refine tr_aload_n dX12_feed_101 rfl ?_
  refine tr_dup dX12_feed_102 rfl ?_
  refine tr_getI dX12_feed_103 fl12_378 (hK 183 12 (by decide) kd_183) ?_
  refine tr_topi 2 rfl ?_
  refine tr_iconst (v := 1) dX12_feed_106 (by decide +kernel) ?_
  refine tr_iadd dX12_feed_107 ?_
  refine tr_topi 3 (by decide +kernel) ?_
  refine tr_putI dX12_feed_108 fl12_378 (hK 183 12 (by decide) kd_183) (Or.inl rfl) ?_
  refine tr_iinc dX12_feed_111 rfl (by decide) ?_
  refine tr_goto 23 dX12_feed_114 (by decide) ?_
  refine tr_iload dX12_feed_23 rfl ?_
  refine tr_bipush (v := 20) dX12_feed_25 (by decide +kernel) ?_
  refine tr_icmp_ge 117 dX12_feed_27 (by decide) (fun h => absurd h (by decide +kernel)) (fun _ => ?_)
  refine tr_iload dX12_feed_30 rfl ?_
  refine tr_iconst (v := 4) dX12_feed_32 (by decide +kernel) ?_
  refine tr_icmp_ge 40 dX12_feed_33 (by decide) (fun h => absurd h (by decide +kernel)) (fun _ => ?_)
  refine tr_iload_n dX12_feed_36 rfl ?_
  refine tr_goto 76 dX12_feed_37 (by decide) ?_
  refine tr_istore dX12_feed_76 (by decide) (by decide) ?_
  refine tr_aload_n dX12_feed_78 rfl ?_
  refine tr_getR (x := 184) dX12_feed_79 fl12_13 (hK 183 12 (by decide) kd_183) (hR 183 5 (some 184) (by decide +kernel) rf_183_5) ?_
  refine tr_aload_n dX12_feed_82 rfl ?_
  refine tr_getI dX12_feed_83 fl12_378 (hK 183 12 (by decide) kd_183) ?_
  refine tr_topi 3 rfl ?_
  refine tr_iload dX12_feed_86 rfl ?_
  refine tr_bipush (v := 24) dX12_feed_88 (by decide +kernel) ?_
  refine tr_bipush (v := 8) dX12_feed_90 (by decide +kernel) ?_
  refine tr_iload dX12_feed_92 rfl ?_
  refine tr_iconst (v := 4) dX12_feed_94 (by decide +kernel) ?_
  refine tr_irem dX12_feed_95 (by decide +kernel) ?_
  refine tr_topi 3 (by decide +kernel) ?_
  refine tr_imul dX12_feed_96 ?_
  refine tr_topi 24 (by decide +kernel) ?_
  refine tr_isub dX12_feed_97 ?_
  refine tr_topi 0 (by decide +kernel) ?_
  refine tr_ishr dX12_feed_98 ?_
  refine tr_i2b dX12_feed_99 ?_
  refine tr_bast dX12_feed_100 (hK 184 13 (by decide) kd_184) (cz_inl 900 (hN 184 900 (by decide) ln_184) (by decide +kernel)) ?_
  refine tr_aload_n dX12_feed_101 rfl ?_
  refine tr_dup dX12_feed_102 rfl ?_
  refine tr_getI dX12_feed_103 fl12_378 (hK 183 12 (by decide) kd_183) ?_
  refine tr_topi 3 rfl ?_
  refine tr_iconst (v := 1) dX12_feed_106 (by decide +kernel) ?_
  refine tr_iadd dX12_feed_107 ?_
  refine tr_topi 4 (by decide +kernel) ?_
  refine tr_putI dX12_feed_108 fl12_378 (hK 183 12 (by decide) kd_183) (Or.inl rfl) ?_
  refine tr_iinc dX12_feed_111 rfl (by decide) ?_
  refine tr_goto 23 dX12_feed_114 (by decide) ?_
  refine tr_iload dX12_feed_23 rfl ?_
  refine tr_bipush (v := 20) dX12_feed_25 (by decide +kernel) ?_
  refine tr_icmp_ge 117 dX12_feed_27 (by decide) (fun h => absurd h (by decide +kernel)) (fun _ => ?_)
  refine tr_iload dX12_feed_30 rfl ?_
  refine tr_iconst (v := 4) dX12_feed_32 (by decide +kernel) ?_
  refine tr_icmp_ge 40 dX12_feed_33 (by decide) (fun _ => ?_) (fun h => absurd (by decide +kernel) h)
  refine tr_iload dX12_feed_40 rfl ?_
  refine tr_bipush (v := 8) dX12_feed_42 (by decide +kernel) ?_
  refine tr_icmp_ge 51 dX12_feed_44 (by decide) (fun h => absurd h (by decide +kernel)) (fun _ => ?_)
  refine tr_iload_n dX12_feed_47 rfl ?_
  refine tr_goto 76 dX12_feed_48 (by decide) ?_
  refine tr_istore dX12_feed_76 (by decide) (by decide) ?_
  refine tr_aload_n dX12_feed_78 rfl ?_
  refine tr_getR (x := 184) dX12_feed_79 fl12_13 (hK 183 12 (by decide) kd_183) (hR 183 5 (some 184) (by decide +kernel) rf_183_5) ?_
  refine tr_aload_n dX12_feed_82 rfl ?_
  refine tr_getI dX12_feed_83 fl12_378 (hK 183 12 (by decide) kd_183) ?_
  refine tr_topi 4 rfl ?_
  refine tr_iload dX12_feed_86 rfl ?_
  refine tr_bipush (v := 24) dX12_feed_88 (by decide +kernel) ?_
  refine tr_bipush (v := 8) dX12_feed_90 (by decide +kernel) ?_
  refine tr_iload dX12_feed_92 rfl ?_
  refine tr_iconst (v := 4) dX12_feed_94 (by decide +kernel) ?_
  refine tr_irem dX12_feed_95 (by decide +kernel) ?_
  refine tr_topi 0 (by decide +kernel) ?_
  refine tr_imul dX12_feed_96 ?_
  refine tr_topi 0 (by decide +kernel) ?_
  refine tr_isub dX12_feed_97 ?_
  refine tr_topi 24 (by decide +kernel) ?_
  refine tr_ishr dX12_feed_98 ?_
  refine tr_i2b dX12_feed_99 ?_
  refine tr_bast dX12_feed_100 (hK 184 13 (by decide) kd_184) (cz_inl 900 (hN 184 900 (by decide) ln_184) (by decide +kernel)) ?_
  refine tr_aload_n dX12_feed_101 rfl ?_
  refine tr_dup dX12_feed_102 rfl ?_
  refine tr_getI dX12_feed_103 fl12_378 (hK 183 12 (by decide) kd_183) ?_
  refine tr_topi 4 rfl ?_
  refine tr_iconst (v := 1) dX12_feed_106 (by decide +kernel) ?_
  refine tr_iadd dX12_feed_107 ?_
  refine tr_topi 5 (by decide +kernel) ?_
  refine tr_putI dX12_feed_108 fl12_378 (hK 183 12 (by decide) kd_183) (Or.inl rfl) ?_
  refine tr_iinc dX12_feed_111 rfl (by decide) ?_
  refine tr_goto 23 dX12_feed_114 (by decide) ?_
  refine tr_iload dX12_feed_23 rfl ?_
  refine tr_bipush (v := 20) dX12_feed_25 (by decide +kernel) ?_
  refine tr_icmp_ge 117 dX12_feed_27 (by decide) (fun h => absurd h (by decide +kernel)) (fun _ => ?_)
  refine tr_iload dX12_feed_30 rfl ?_
  refine tr_iconst (v := 4) dX12_feed_32 (by decide +kernel) ?_
  refine tr_icmp_ge 40 dX12_feed_33 (by decide) (fun _ => ?_) (fun h => absurd (by decide +kernel) h)
  refine tr_iload dX12_feed_40 rfl ?_
  refine tr_bipush (v := 8) dX12_feed_42 (by decide +kernel) ?_
  refine tr_icmp_ge 51 dX12_feed_44 (by decide) (fun h => absurd h (by decide +kernel)) (fun _ => ?_)
  refine tr_iload_n dX12_feed_47 rfl ?_
  refine tr_goto 76 dX12_feed_48 (by decide) ?_
  refine tr_istore dX12_feed_76 (by decide) (by decide) ?_
  refine tr_aload_n dX12_feed_78 rfl ?_
  refine tr_getR (x := 184) dX12_feed_79 fl12_13 (hK 183 12 (by decide) kd_183) (hR 183 5 (some 184) (by decide +kernel) rf_183_5) ?_
  refine tr_aload_n dX12_feed_82 rfl ?_
  refine tr_getI dX12_feed_83 fl12_378 (hK 183 12 (by decide) kd_183) ?_
  refine tr_topi 5 rfl ?_
  refine tr_iload dX12_feed_86 rfl ?_
  refine tr_bipush (v := 24) dX12_feed_88 (by decide +kernel) ?_
  refine tr_bipush (v := 8) dX12_feed_90 (by decide +kernel) ?_
  refine tr_iload dX12_feed_92 rfl ?_
  refine tr_iconst (v := 4) dX12_feed_94 (by decide +kernel) ?_
  refine tr_irem dX12_feed_95 (by decide +kernel) ?_
  refine tr_topi 1 (by decide +kernel) ?_
  refine tr_imul dX12_feed_96 ?_
  refine tr_topi 8 (by decide +kernel) ?_
  refine tr_isub dX12_feed_97 ?_
  refine tr_topi 16 (by decide +kernel) ?_
  refine tr_ishr dX12_feed_98 ?_
  refine tr_i2b dX12_feed_99 ?_
  refine tr_bast dX12_feed_100 (hK 184 13 (by decide) kd_184) (cz_inl 900 (hN 184 900 (by decide) ln_184) (by decide +kernel)) ?_
  refine tr_aload_n dX12_feed_101 rfl ?_
  refine tr_dup dX12_feed_102 rfl ?_
  refine tr_getI dX12_feed_103 fl12_378 (hK 183 12 (by decide) kd_183) ?_
  refine tr_topi 5 rfl ?_
  refine tr_iconst (v := 1) dX12_feed_106 (by decide +kernel) ?_
  refine tr_iadd dX12_feed_107 ?_
  refine tr_topi 6 (by decide +kernel) ?_
  refine tr_putI dX12_feed_108 fl12_378 (hK 183 12 (by decide) kd_183) (Or.inl rfl) ?_
  refine tr_iinc dX12_feed_111 rfl (by decide) ?_
  refine tr_goto 23 dX12_feed_114 (by decide) ?_
  refine tr_iload dX12_feed_23 rfl ?_
  refine tr_bipush (v := 20) dX12_feed_25 (by decide +kernel) ?_
  refine tr_icmp_ge 117 dX12_feed_27 (by decide) (fun h => absurd h (by decide +kernel)) (fun _ => ?_)
  refine tr_iload dX12_feed_30 rfl ?_
  refine tr_iconst (v := 4) dX12_feed_32 (by decide +kernel) ?_
  refine tr_icmp_ge 40 dX12_feed_33 (by decide) (fun _ => ?_) (fun h => absurd (by decide +kernel) h)
  refine tr_iload dX12_feed_40 rfl ?_
  refine tr_bipush (v := 8) dX12_feed_42 (by decide +kernel) ?_
  refine tr_icmp_ge 51 dX12_feed_44 (by decide) (fun h => absurd h (by decide +kernel)) (fun _ => ?_)
  refine tr_iload_n dX12_feed_47 rfl ?_
  refine tr_goto 76 dX12_feed_48 (by decide) ?_
  refine tr_istore dX12_feed_76 (by decide) (by decide) ?_
  refine tr_aload_n dX12_feed_78 rfl ?_
  refine tr_getR (x := 184) dX12_feed_79 fl12_13 (hK 183 12 (by decide) kd_183) (hR 183 5 (some 184) (by decide +kernel) rf_183_5) ?_
  refine tr_aload_n dX12_feed_82 rfl ?_
  refine tr_getI dX12_feed_83 fl12_378 (hK 183 12 (by decide) kd_183) ?_
  refine tr_topi 6 rfl ?_
  refine tr_iload dX12_feed_86 rfl ?_
  refine tr_bipush (v := 24) dX12_feed_88 (by decide +kernel) ?_
  refine tr_bipush (v := 8) dX12_feed_90 (by decide +kernel) ?_
  refine tr_iload dX12_feed_92 rfl ?_
  refine tr_iconst (v := 4) dX12_feed_94 (by decide +kernel) ?_
  refine tr_irem dX12_feed_95 (by decide +kernel) ?_
  refine tr_topi 2 (by decide +kernel) ?_
  refine tr_imul dX12_feed_96 ?_
  refine tr_topi 16 (by decide +kernel) ?_
  refine tr_isub dX12_feed_97 ?_
  refine tr_topi 8 (by decide +kernel) ?_
  refine tr_ishr dX12_feed_98 ?_
  refine tr_i2b dX12_feed_99 ?_
  refine tr_bast dX12_feed_100 (hK 184 13 (by decide) kd_184) (cz_inl 900 (hN 184 900 (by decide) ln_184) (by decide +kernel)) ?_
  refine tr_aload_n dX12_feed_101 rfl ?_
  refine tr_dup dX12_feed_102 rfl ?_
  refine tr_getI dX12_feed_103 fl12_378 (hK 183 12 (by decide) kd_183) ?_
  refine tr_topi 6 rfl ?_
  refine tr_iconst (v := 1) dX12_feed_106 (by decide +kernel) ?_
  refine tr_iadd dX12_feed_107 ?_
  refine tr_topi 7 (by decide +kernel) ?_
  refine tr_putI dX12_feed_108 fl12_378 (hK 183 12 (by decide) kd_183) (Or.inl rfl) ?_
  refine tr_iinc dX12_feed_111 rfl (by decide) ?_
  refine tr_goto 23 dX12_feed_114 (by decide) ?_
  refine tr_iload dX12_feed_23 rfl ?_
  refine tr_bipush (v := 20) dX12_feed_25 (by decide +kernel) ?_
  refine tr_icmp_ge 117 dX12_feed_27 (by decide) (fun h => absurd h (by decide +kernel)) (fun _ => ?_)
  refine tr_iload dX12_feed_30 rfl ?_
  refine tr_iconst (v := 4) dX12_feed_32 (by decide +kernel) ?_
  refine tr_icmp_ge 40 dX12_feed_33 (by decide) (fun _ => ?_) (fun h => absurd (by decide +kernel) h)
  refine tr_iload dX12_feed_40 rfl ?_
  refine tr_bipush (v := 8) dX12_feed_42 (by decide +kernel) ?_
  refine tr_icmp_ge 51 dX12_feed_44 (by decide) (fun h => absurd h (by decide +kernel)) (fun _ => ?_)
  refine tr_iload_n dX12_feed_47 rfl ?_
  refine tr_goto 76 dX12_feed_48 (by decide) ?_
  refine tr_istore dX12_feed_76 (by decide) (by decide) ?_
  refine tr_aload_n dX12_feed_78 rfl ?_
  refine tr_getR (x := 184) dX12_feed_79 fl12_13 (hK 183 12 (by decide) kd_183) (hR 183 5 (some 184) (by decide +kernel) rf_183_5) ?_
  refine tr_aload_n dX12_feed_82 rfl ?_
  refine tr_getI dX12_feed_83 fl12_378 (hK 183 12 (by decide) kd_183) ?_
  refine tr_topi 7 rfl ?_
  refine tr_iload dX12_feed_86 rfl ?_
  refine tr_bipush (v := 24) dX12_feed_88 (by decide +kernel) ?_
  refine tr_bipush (v := 8) dX12_feed_90 (by decide +kernel) ?_
  refine tr_iload dX12_feed_92 rfl ?_
  refine tr_iconst (v := 4) dX12_feed_94 (by decide +kernel) ?_
  refine tr_irem dX12_feed_95 (by decide +kernel) ?_
  refine tr_topi 3 (by decide +kernel) ?_
  refine tr_imul dX12_feed_96 ?_
  refine tr_topi 24 (by decide +kernel) ?_
  refine tr_isub dX12_feed_97 ?_
  refine tr_topi 0 (by decide +kernel) ?_
  refine tr_ishr dX12_feed_98 ?_
  refine tr_i2b dX12_feed_99 ?_
  refine tr_bast dX12_feed_100 (hK 184 13 (by decide) kd_184) (cz_inl 900 (hN 184 900 (by decide) ln_184) (by decide +kernel)) ?_
  refine tr_aload_n dX12_feed_101 rfl ?_
  refine tr_dup dX12_feed_102 rfl ?_
  refine tr_getI dX12_feed_103 fl12_378 (hK 183 12 (by decide) kd_183) ?_
  refine tr_topi 7 rfl ?_
  refine tr_iconst (v := 1) dX12_feed_106 (by decide +kernel) ?_
  refine tr_iadd dX12_feed_107 ?_
  refine tr_topi 8 (by decide +kernel) ?_
  refine tr_putI dX12_feed_108 fl12_378 (hK 183 12 (by decide) kd_183) (Or.inl rfl) ?_
  refine tr_iinc dX12_feed_111 rfl (by decide) ?_
  refine tr_goto 23 dX12_feed_114 (by decide) ?_
  refine tr_iload dX12_feed_23 rfl ?_
  refine tr_bipush (v := 20) dX12_feed_25 (by decide +kernel) ?_
  refine tr_icmp_ge 117 dX12_feed_27 (by decide) (fun h => absurd h (by decide +kernel)) (fun _ => ?_)
  refine tr_iload dX12_feed_30 rfl ?_
  refine tr_iconst (v := 4) dX12_feed_32 (by decide +kernel) ?_
  refine tr_icmp_ge 40 dX12_feed_33 (by decide) (fun _ => ?_) (fun h => absurd (by decide +kernel) h)
  refine tr_iload dX12_feed_40 rfl ?_
  refine tr_bipush (v := 8) dX12_feed_42 (by decide +kernel) ?_
  refine tr_icmp_ge 51 dX12_feed_44 (by decide) (fun _ => ?_) (fun h => absurd (by decide +kernel) h)
  refine tr_iload dX12_feed_51 rfl ?_
  refine tr_bipush (v := 12) dX12_feed_53 (by decide +kernel) ?_
  refine tr_icmp_ge 62 dX12_feed_55 (by decide) (fun h => absurd h (by decide +kernel)) (fun _ => ?_)
  refine tr_iload_n dX12_feed_58 rfl ?_
  refine tr_goto 76 dX12_feed_59 (by decide) ?_
  refine tr_istore dX12_feed_76 (by decide) (by decide) ?_
  refine tr_aload_n dX12_feed_78 rfl ?_
  refine tr_getR (x := 184) dX12_feed_79 fl12_13 (hK 183 12 (by decide) kd_183) (hR 183 5 (some 184) (by decide +kernel) rf_183_5) ?_
  refine tr_aload_n dX12_feed_82 rfl ?_
  refine tr_getI dX12_feed_83 fl12_378 (hK 183 12 (by decide) kd_183) ?_
  refine tr_topi 8 rfl ?_
  refine tr_iload dX12_feed_86 rfl ?_
  refine tr_bipush (v := 24) dX12_feed_88 (by decide +kernel) ?_
  refine tr_bipush (v := 8) dX12_feed_90 (by decide +kernel) ?_
  refine tr_iload dX12_feed_92 rfl ?_
  refine tr_iconst (v := 4) dX12_feed_94 (by decide +kernel) ?_
  refine tr_irem dX12_feed_95 (by decide +kernel) ?_
  refine tr_topi 0 (by decide +kernel) ?_
  refine tr_imul dX12_feed_96 ?_
  refine tr_topi 0 (by decide +kernel) ?_
  refine tr_isub dX12_feed_97 ?_
  refine tr_topi 24 (by decide +kernel) ?_
  refine tr_ishr dX12_feed_98 ?_
  refine tr_i2b dX12_feed_99 ?_
  refine tr_bast dX12_feed_100 (hK 184 13 (by decide) kd_184) (cz_inl 900 (hN 184 900 (by decide) ln_184) (by decide +kernel)) ?_
  refine tr_aload_n dX12_feed_101 rfl ?_
  refine tr_dup dX12_feed_102 rfl ?_
  refine tr_getI dX12_feed_103 fl12_378 (hK 183 12 (by decide) kd_183) ?_
  refine tr_topi 8 rfl ?_
  refine tr_iconst (v := 1) dX12_feed_106 (by decide +kernel) ?_
  refine tr_iadd dX12_feed_107 ?_
  refine tr_topi 9 (by decide +kernel) ?_
  refine tr_putI dX12_feed_108 fl12_378 (hK 183 12 (by decide) kd_183) (Or.inl rfl) ?_
  refine tr_iinc dX12_feed_111 rfl (by decide) ?_
  refine tr_goto 23 dX12_feed_114 (by decide) ?_
  refine tr_iload dX12_feed_23 rfl ?_
  refine tr_bipush (v := 20) dX12_feed_25 (by decide +kernel) ?_
  refine tr_icmp_ge 117 dX12_feed_27 (by decide) (fun h => absurd h (by decide +kernel)) (fun _ => ?_)
  refine tr_iload dX12_feed_30 rfl ?_
  refine tr_iconst (v := 4) dX12_feed_32 (by decide +kernel) ?_
  refine tr_icmp_ge 40 dX12_feed_33 (by decide) (fun _ => ?_) (fun h => absurd (by decide +kernel) h)
  refine tr_iload dX12_feed_40 rfl ?_
  refine tr_bipush (v := 8) dX12_feed_42 (by decide +kernel) ?_
  refine tr_icmp_ge 51 dX12_feed_44 (by decide) (fun _ => ?_) (fun h => absurd (by decide +kernel) h)
  refine tr_iload dX12_feed_51 rfl ?_
  refine tr_bipush (v := 12) dX12_feed_53 (by decide +kernel) ?_
  refine tr_icmp_ge 62 dX12_feed_55 (by decide) (fun h => absurd h (by decide +kernel)) (fun _ => ?_)
  refine tr_iload_n dX12_feed_58 rfl ?_
  refine tr_goto 76 dX12_feed_59 (by decide) ?_
  refine tr_istore dX12_feed_76 (by decide) (by decide) ?_
  refine tr_aload_n dX12_feed_78 rfl ?_
  refine tr_getR (x := 184) dX12_feed_79 fl12_13 (hK 183 12 (by decide) kd_183) (hR 183 5 (some 184) (by decide +kernel) rf_183_5) ?_
  refine tr_aload_n dX12_feed_82 rfl ?_
  refine tr_getI dX12_feed_83 fl12_378 (hK 183 12 (by decide) kd_183) ?_
  refine tr_topi 9 rfl ?_
  refine tr_iload dX12_feed_86 rfl ?_
  refine tr_bipush (v := 24) dX12_feed_88 (by decide +kernel) ?_
  refine tr_bipush (v := 8) dX12_feed_90 (by decide +kernel) ?_
  refine tr_iload dX12_feed_92 rfl ?_
  refine tr_iconst (v := 4) dX12_feed_94 (by decide +kernel) ?_
  refine tr_irem dX12_feed_95 (by decide +kernel) ?_
  refine tr_topi 1 (by decide +kernel) ?_
  refine tr_imul dX12_feed_96 ?_
  refine tr_topi 8 (by decide +kernel) ?_
  refine tr_isub dX12_feed_97 ?_
  refine tr_topi 16 (by decide +kernel) ?_
  refine tr_ishr dX12_feed_98 ?_
  refine tr_i2b dX12_feed_99 ?_
  refine tr_bast dX12_feed_100 (hK 184 13 (by decide) kd_184) (cz_inl 900 (hN 184 900 (by decide) ln_184) (by decide +kernel)) ?_
  refine tr_aload_n dX12_feed_101 rfl ?_
  refine tr_dup dX12_feed_102 rfl ?_
  refine tr_getI dX12_feed_103 fl12_378 (hK 183 12 (by decide) kd_183) ?_
  refine tr_topi 9 rfl ?_
  refine tr_iconst (v := 1) dX12_feed_106 (by decide +kernel) ?_
  refine tr_iadd dX12_feed_107 ?_
  refine tr_topi 10 (by decide +kernel) ?_
  refine tr_putI dX12_feed_108 fl12_378 (hK 183 12 (by decide) kd_183) (Or.inl rfl) ?_
  refine tr_iinc dX12_feed_111 rfl (by decide) ?_
  refine tr_goto 23 dX12_feed_114 (by decide) ?_
  refine tr_iload dX12_feed_23 rfl ?_
  refine tr_bipush (v := 20) dX12_feed_25 (by decide +kernel) ?_
  refine tr_icmp_ge 117 dX12_feed_27 (by decide) (fun h => absurd h (by decide +kernel)) (fun _ => ?_)
  refine tr_iload dX12_feed_30 rfl ?_
  refine tr_iconst (v := 4) dX12_feed_32 (by decide +kernel) ?_
  refine tr_icmp_ge 40 dX12_feed_33 (by decide) (fun _ => ?_) (fun h => absurd (by decide +kernel) h)
  refine tr_iload dX12_feed_40 rfl ?_
  refine tr_bipush (v := 8) dX12_feed_42 (by decide +kernel) ?_
  refine tr_icmp_ge 51 dX12_feed_44 (by decide) (fun _ => ?_) (fun h => absurd (by decide +kernel) h)
  refine tr_iload dX12_feed_51 rfl ?_
  refine tr_bipush (v := 12) dX12_feed_53 (by decide +kernel) ?_
  refine tr_icmp_ge 62 dX12_feed_55 (by decide) (fun h => absurd h (by decide +kernel)) (fun _ => ?_)
  refine tr_iload_n dX12_feed_58 rfl ?_
  refine tr_goto 76 dX12_feed_59 (by decide) ?_
  refine tr_istore dX12_feed_76 (by decide) (by decide) ?_
  refine tr_aload_n dX12_feed_78 rfl ?_
  refine tr_getR (x := 184) dX12_feed_79 fl12_13 (hK 183 12 (by decide) kd_183) (hR 183 5 (some 184) (by decide +kernel) rf_183_5) ?_
  refine tr_aload_n dX12_feed_82 rfl ?_
  refine tr_getI dX12_feed_83 fl12_378 (hK 183 12 (by decide) kd_183) ?_
  refine tr_topi 10 rfl ?_
  refine tr_iload dX12_feed_86 rfl ?_
  refine tr_bipush (v := 24) dX12_feed_88 (by decide +kernel) ?_
  refine tr_bipush (v := 8) dX12_feed_90 (by decide +kernel) ?_
  refine tr_iload dX12_feed_92 rfl ?_
  refine tr_iconst (v := 4) dX12_feed_94 (by decide +kernel) ?_
  refine tr_irem dX12_feed_95 (by decide +kernel) ?_
  refine tr_topi 2 (by decide +kernel) ?_
  refine tr_imul dX12_feed_96 ?_
  refine tr_topi 16 (by decide +kernel) ?_
  refine tr_isub dX12_feed_97 ?_
  refine tr_topi 8 (by decide +kernel) ?_
  refine tr_ishr dX12_feed_98 ?_
  refine tr_i2b dX12_feed_99 ?_
  refine tr_bast dX12_feed_100 (hK 184 13 (by decide) kd_184) (cz_inl 900 (hN 184 900 (by decide) ln_184) (by decide +kernel)) ?_
  refine tr_aload_n dX12_feed_101 rfl ?_
  refine tr_dup dX12_feed_102 rfl ?_
  refine tr_getI dX12_feed_103 fl12_378 (hK 183 12 (by decide) kd_183) ?_
  refine tr_topi 10 rfl ?_
  refine tr_iconst (v := 1) dX12_feed_106 (by decide +kernel) ?_
  refine tr_iadd dX12_feed_107 ?_
  refine tr_topi 11 (by decide +kernel) ?_
  refine tr_putI dX12_feed_108 fl12_378 (hK 183 12 (by decide) kd_183) (Or.inl rfl) ?_
  refine tr_iinc dX12_feed_111 rfl (by decide) ?_
  refine tr_goto 23 dX12_feed_114 (by decide) ?_
  refine tr_iload dX12_feed_23 rfl ?_
  refine tr_bipush (v := 20) dX12_feed_25 (by decide +kernel) ?_
  refine tr_icmp_ge 117 dX12_feed_27 (by decide) (fun h => absurd h (by decide +kernel)) (fun _ => ?_)
  refine tr_iload dX12_feed_30 rfl ?_
  refine tr_iconst (v := 4) dX12_feed_32 (by decide +kernel) ?_
  refine tr_icmp_ge 40 dX12_feed_33 (by decide) (fun _ => ?_) (fun h => absurd (by decide +kernel) h)
  refine tr_iload dX12_feed_40 rfl ?_
  refine tr_bipush (v := 8) dX12_feed_42 (by decide +kernel) ?_
  refine tr_icmp_ge 51 dX12_feed_44 (by decide) (fun _ => ?_) (fun h => absurd (by decide +kernel) h)
  refine tr_iload dX12_feed_51 rfl ?_
  refine tr_bipush (v := 12) dX12_feed_53 (by decide +kernel) ?_
  refine tr_icmp_ge 62 dX12_feed_55 (by decide) (fun h => absurd h (by decide +kernel)) (fun _ => ?_)
  refine tr_iload_n dX12_feed_58 rfl ?_
  refine tr_goto 76 dX12_feed_59 (by decide) ?_
  refine tr_istore dX12_feed_76 (by decide) (by decide) ?_
  refine tr_aload_n dX12_feed_78 rfl ?_
  refine tr_getR (x := 184) dX12_feed_79 fl12_13 (hK 183 12 (by decide) kd_183) (hR 183 5 (some 184) (by decide +kernel) rf_183_5) ?_
  refine tr_aload_n dX12_feed_82 rfl ?_
  refine tr_getI dX12_feed_83 fl12_378 (hK 183 12 (by decide) kd_183) ?_
  refine tr_topi 11 rfl ?_
  refine tr_iload dX12_feed_86 rfl ?_
  refine tr_bipush (v := 24) dX12_feed_88 (by decide +kernel) ?_
  refine tr_bipush (v := 8) dX12_feed_90 (by decide +kernel) ?_
  refine tr_iload dX12_feed_92 rfl ?_
  refine tr_iconst (v := 4) dX12_feed_94 (by decide +kernel) ?_
  refine tr_irem dX12_feed_95 (by decide +kernel) ?_
  refine tr_topi 3 (by decide +kernel) ?_
  refine tr_imul dX12_feed_96 ?_
  refine tr_topi 24 (by decide +kernel) ?_
  refine tr_isub dX12_feed_97 ?_
  refine tr_topi 0 (by decide +kernel) ?_
  refine tr_ishr dX12_feed_98 ?_
  refine tr_i2b dX12_feed_99 ?_
  refine tr_bast dX12_feed_100 (hK 184 13 (by decide) kd_184) (cz_inl 900 (hN 184 900 (by decide) ln_184) (by decide +kernel)) ?_
  refine tr_aload_n dX12_feed_101 rfl ?_
  refine tr_dup dX12_feed_102 rfl ?_
  refine tr_getI dX12_feed_103 fl12_378 (hK 183 12 (by decide) kd_183) ?_
  refine tr_topi 11 rfl ?_
  refine tr_iconst (v := 1) dX12_feed_106 (by decide +kernel) ?_
  refine tr_iadd dX12_feed_107 ?_
  refine tr_topi 12 (by decide +kernel) ?_
  refine tr_putI dX12_feed_108 fl12_378 (hK 183 12 (by decide) kd_183) (Or.inl rfl) ?_
  refine tr_iinc dX12_feed_111 rfl (by decide) ?_
  refine tr_goto 23 dX12_feed_114 (by decide) ?_
  refine tr_iload dX12_feed_23 rfl ?_
  refine tr_bipush (v := 20) dX12_feed_25 (by decide +kernel) ?_
  refine tr_icmp_ge 117 dX12_feed_27 (by decide) (fun h => absurd h (by decide +kernel)) (fun _ => ?_)
  refine tr_iload dX12_feed_30 rfl ?_
  refine tr_iconst (v := 4) dX12_feed_32 (by decide +kernel) ?_
  refine tr_icmp_ge 40 dX12_feed_33 (by decide) (fun _ => ?_) (fun h => absurd (by decide +kernel) h)
  refine tr_iload dX12_feed_40 rfl ?_
  refine tr_bipush (v := 8) dX12_feed_42 (by decide +kernel) ?_
  refine tr_icmp_ge 51 dX12_feed_44 (by decide) (fun _ => ?_) (fun h => absurd (by decide +kernel) h)
  refine tr_iload dX12_feed_51 rfl ?_
  refine tr_bipush (v := 12) dX12_feed_53 (by decide +kernel) ?_
  refine tr_icmp_ge 62 dX12_feed_55 (by decide) (fun _ => ?_) (fun h => absurd (by decide +kernel) h)
  refine tr_iload dX12_feed_62 rfl ?_
  refine tr_bipush (v := 16) dX12_feed_64 (by decide +kernel) ?_
  refine tr_icmp_ge 74 dX12_feed_66 (by decide) (fun h => absurd h (by decide +kernel)) (fun _ => ?_)
  refine tr_iload dX12_feed_69 rfl ?_
  refine tr_goto 76 dX12_feed_71 (by decide) ?_
  refine tr_istore dX12_feed_76 (by decide) (by decide) ?_
  refine tr_aload_n dX12_feed_78 rfl ?_
  refine tr_getR (x := 184) dX12_feed_79 fl12_13 (hK 183 12 (by decide) kd_183) (hR 183 5 (some 184) (by decide +kernel) rf_183_5) ?_
  refine tr_aload_n dX12_feed_82 rfl ?_
  refine tr_getI dX12_feed_83 fl12_378 (hK 183 12 (by decide) kd_183) ?_
  refine tr_topi 12 rfl ?_
  refine tr_iload dX12_feed_86 rfl ?_
  refine tr_bipush (v := 24) dX12_feed_88 (by decide +kernel) ?_
  refine tr_bipush (v := 8) dX12_feed_90 (by decide +kernel) ?_
  refine tr_iload dX12_feed_92 rfl ?_
  refine tr_iconst (v := 4) dX12_feed_94 (by decide +kernel) ?_
  refine tr_irem dX12_feed_95 (by decide +kernel) ?_
  refine tr_topi 0 (by decide +kernel) ?_
  refine tr_imul dX12_feed_96 ?_
  refine tr_topi 0 (by decide +kernel) ?_
  refine tr_isub dX12_feed_97 ?_
  refine tr_topi 24 (by decide +kernel) ?_
  refine tr_ishr dX12_feed_98 ?_
  refine tr_i2b dX12_feed_99 ?_
  refine tr_bast dX12_feed_100 (hK 184 13 (by decide) kd_184) (cz_inl 900 (hN 184 900 (by decide) ln_184) (by decide +kernel)) ?_
  refine tr_aload_n dX12_feed_101 rfl ?_
  refine tr_dup dX12_feed_102 rfl ?_
  refine tr_getI dX12_feed_103 fl12_378 (hK 183 12 (by decide) kd_183) ?_
  refine tr_topi 12 rfl ?_
  refine tr_iconst (v := 1) dX12_feed_106 (by decide +kernel) ?_
  refine tr_iadd dX12_feed_107 ?_
  refine tr_topi 13 (by decide +kernel) ?_
  refine tr_putI dX12_feed_108 fl12_378 (hK 183 12 (by decide) kd_183) (Or.inl rfl) ?_
  refine tr_iinc dX12_feed_111 rfl (by decide) ?_
  refine tr_goto 23 dX12_feed_114 (by decide) ?_
  refine tr_iload dX12_feed_23 rfl ?_
  refine tr_bipush (v := 20) dX12_feed_25 (by decide +kernel) ?_
  refine tr_icmp_ge 117 dX12_feed_27 (by decide) (fun h => absurd h (by decide +kernel)) (fun _ => ?_)
  refine tr_iload dX12_feed_30 rfl ?_
  refine tr_iconst (v := 4) dX12_feed_32 (by decide +kernel) ?_
  refine tr_icmp_ge 40 dX12_feed_33 (by decide) (fun _ => ?_) (fun h => absurd (by decide +kernel) h)
  refine tr_iload dX12_feed_40 rfl ?_
  refine tr_bipush (v := 8) dX12_feed_42 (by decide +kernel) ?_
  refine tr_icmp_ge 51 dX12_feed_44 (by decide) (fun _ => ?_) (fun h => absurd (by decide +kernel) h)
  refine tr_iload dX12_feed_51 rfl ?_
  refine tr_bipush (v := 12) dX12_feed_53 (by decide +kernel) ?_
  refine tr_icmp_ge 62 dX12_feed_55 (by decide) (fun _ => ?_) (fun h => absurd (by decide +kernel) h)
  refine tr_iload dX12_feed_62 rfl ?_
  refine tr_bipush (v := 16) dX12_feed_64 (by decide +kernel) ?_
  refine tr_icmp_ge 74 dX12_feed_66 (by decide) (fun h => absurd h (by decide +kernel)) (fun _ => ?_)
  refine tr_iload dX12_feed_69 rfl ?_
  refine tr_goto 76 dX12_feed_71 (by decide) ?_
  refine tr_istore dX12_feed_76 (by decide) (by decide) ?_
  refine tr_aload_n dX12_feed_78 rfl ?_
  refine tr_getR (x := 184) dX12_feed_79 fl12_13 (hK 183 12 (by decide) kd_183) (hR 183 5 (some 184) (by decide +kernel) rf_183_5) ?_
  refine tr_aload_n dX12_feed_82 rfl ?_
  refine tr_getI dX12_feed_83 fl12_378 (hK 183 12 (by decide) kd_183) ?_
  refine tr_topi 13 rfl ?_
  refine tr_iload dX12_feed_86 rfl ?_
  refine tr_bipush (v := 24) dX12_feed_88 (by decide +kernel) ?_
  refine tr_bipush (v := 8) dX12_feed_90 (by decide +kernel) ?_
  refine tr_iload dX12_feed_92 rfl ?_
  refine tr_iconst (v := 4) dX12_feed_94 (by decide +kernel) ?_
  refine tr_irem dX12_feed_95 (by decide +kernel) ?_
  refine tr_topi 1 (by decide +kernel) ?_
  refine tr_imul dX12_feed_96 ?_
  refine tr_topi 8 (by decide +kernel) ?_
  refine tr_isub dX12_feed_97 ?_
  refine tr_topi 16 (by decide +kernel) ?_
  refine tr_ishr dX12_feed_98 ?_
  refine tr_i2b dX12_feed_99 ?_
  refine tr_bast dX12_feed_100 (hK 184 13 (by decide) kd_184) (cz_inl 900 (hN 184 900 (by decide) ln_184) (by decide +kernel)) ?_
  refine tr_aload_n dX12_feed_101 rfl ?_
  refine tr_dup dX12_feed_102 rfl ?_
  refine tr_getI dX12_feed_103 fl12_378 (hK 183 12 (by decide) kd_183) ?_
  refine tr_topi 13 rfl ?_
  refine tr_iconst (v := 1) dX12_feed_106 (by decide +kernel) ?_
  refine tr_iadd dX12_feed_107 ?_
  refine tr_topi 14 (by decide +kernel) ?_
  refine tr_putI dX12_feed_108 fl12_378 (hK 183 12 (by decide) kd_183) (Or.inl rfl) ?_
  refine tr_iinc dX12_feed_111 rfl (by decide) ?_
  refine tr_goto 23 dX12_feed_114 (by decide) ?_
  refine tr_iload dX12_feed_23 rfl ?_
  refine tr_bipush (v := 20) dX12_feed_25 (by decide +kernel) ?_
  refine tr_icmp_ge 117 dX12_feed_27 (by decide) (fun h => absurd h (by decide +kernel)) (fun _ => ?_)
  refine tr_iload dX12_feed_30 rfl ?_
  refine tr_iconst (v := 4) dX12_feed_32 (by decide +kernel) ?_
  refine tr_icmp_ge 40 dX12_feed_33 (by decide) (fun _ => ?_) (fun h => absurd (by decide +kernel) h)
  refine tr_iload dX12_feed_40 rfl ?_
  refine tr_bipush (v := 8) dX12_feed_42 (by decide +kernel) ?_
  refine tr_icmp_ge 51 dX12_feed_44 (by decide) (fun _ => ?_) (fun h => absurd (by decide +kernel) h)
  refine tr_iload dX12_feed_51 rfl ?_
  refine tr_bipush (v := 12) dX12_feed_53 (by decide +kernel) ?_
  refine tr_icmp_ge 62 dX12_feed_55 (by decide) (fun _ => ?_) (fun h => absurd (by decide +kernel) h)
  refine tr_iload dX12_feed_62 rfl ?_
  refine tr_bipush (v := 16) dX12_feed_64 (by decide +kernel) ?_
  refine tr_icmp_ge 74 dX12_feed_66 (by decide) (fun h => absurd h (by decide +kernel)) (fun _ => ?_)
  refine tr_iload dX12_feed_69 rfl ?_
  refine tr_goto 76 dX12_feed_71 (by decide) ?_
  refine tr_istore dX12_feed_76 (by decide) (by decide) ?_
  refine tr_aload_n dX12_feed_78 rfl ?_
  refine tr_getR (x := 184) dX12_feed_79 fl12_13 (hK 183 12 (by decide) kd_183) (hR 183 5 (some 184) (by decide +kernel) rf_183_5) ?_
  refine tr_aload_n dX12_feed_82 rfl ?_
  refine tr_getI dX12_feed_83 fl12_378 (hK 183 12 (by decide) kd_183) ?_
  refine tr_topi 14 rfl ?_
  refine tr_iload dX12_feed_86 rfl ?_
  refine tr_bipush (v := 24) dX12_feed_88 (by decide +kernel) ?_
  refine tr_bipush (v := 8) dX12_feed_90 (by decide +kernel) ?_
  refine tr_iload dX12_feed_92 rfl ?_
  refine tr_iconst (v := 4) dX12_feed_94 (by decide +kernel) ?_
  refine tr_irem dX12_feed_95 (by decide +kernel) ?_
  refine tr_topi 2 (by decide +kernel) ?_
  refine tr_imul dX12_feed_96 ?_
  refine tr_topi 16 (by decide +kernel) ?_
  refine tr_isub dX12_feed_97 ?_
  refine tr_topi 8 (by decide +kernel) ?_
  refine tr_ishr dX12_feed_98 ?_
  refine tr_i2b dX12_feed_99 ?_
  refine tr_bast dX12_feed_100 (hK 184 13 (by decide) kd_184) (cz_inl 900 (hN 184 900 (by decide) ln_184) (by decide +kernel)) ?_
  refine tr_aload_n dX12_feed_101 rfl ?_
  refine tr_dup dX12_feed_102 rfl ?_
  refine tr_getI dX12_feed_103 fl12_378 (hK 183 12 (by decide) kd_183) ?_
  refine tr_topi 14 rfl ?_
  refine tr_iconst (v := 1) dX12_feed_106 (by decide +kernel) ?_
  refine tr_iadd dX12_feed_107 ?_
  refine tr_topi 15 (by decide +kernel) ?_
  refine tr_putI dX12_feed_108 fl12_378 (hK 183 12 (by decide) kd_183) (Or.inl rfl) ?_
  refine tr_iinc dX12_feed_111 rfl (by decide) ?_
  refine tr_goto 23 dX12_feed_114 (by decide) ?_
  refine tr_iload dX12_feed_23 rfl ?_
  refine tr_bipush (v := 20) dX12_feed_25 (by decide +kernel) ?_
  refine tr_icmp_ge 117 dX12_feed_27 (by decide) (fun h => absurd h (by decide +kernel)) (fun _ => ?_)
  refine tr_iload dX12_feed_30 rfl ?_
  refine tr_iconst (v := 4) dX12_feed_32 (by decide +kernel) ?_
  refine tr_icmp_ge 40 dX12_feed_33 (by decide) (fun _ => ?_) (fun h => absurd (by decide +kernel) h)
  refine tr_iload dX12_feed_40 rfl ?_
  refine tr_bipush (v := 8) dX12_feed_42 (by decide +kernel) ?_
  refine tr_icmp_ge 51 dX12_feed_44 (by decide) (fun _ => ?_) (fun h => absurd (by decide +kernel) h)
  refine tr_iload dX12_feed_51 rfl ?_
  refine tr_bipush (v := 12) dX12_feed_53 (by decide +kernel) ?_
  refine tr_icmp_ge 62 dX12_feed_55 (by decide) (fun _ => ?_) (fun h => absurd (by decide +kernel) h)
  refine tr_iload dX12_feed_62 rfl ?_
  refine tr_bipush (v := 16) dX12_feed_64 (by decide +kernel) ?_
  refine tr_icmp_ge 74 dX12_feed_66 (by decide) (fun h => absurd h (by decide +kernel)) (fun _ => ?_)
  refine tr_iload dX12_feed_69 rfl ?_
  refine tr_goto 76 dX12_feed_71 (by decide) ?_
  refine tr_istore dX12_feed_76 (by decide) (by decide) ?_
  refine tr_aload_n dX12_feed_78 rfl ?_
  refine tr_getR (x := 184) dX12_feed_79 fl12_13 (hK 183 12 (by decide) kd_183) (hR 183 5 (some 184) (by decide +kernel) rf_183_5) ?_
  refine tr_aload_n dX12_feed_82 rfl ?_
  refine tr_getI dX12_feed_83 fl12_378 (hK 183 12 (by decide) kd_183) ?_
  refine tr_topi 15 rfl ?_
  refine tr_iload dX12_feed_86 rfl ?_
  refine tr_bipush (v := 24) dX12_feed_88 (by decide +kernel) ?_
  refine tr_bipush (v := 8) dX12_feed_90 (by decide +kernel) ?_
  refine tr_iload dX12_feed_92 rfl ?_
  refine tr_iconst (v := 4) dX12_feed_94 (by decide +kernel) ?_
  refine tr_irem dX12_feed_95 (by decide +kernel) ?_
  refine tr_topi 3 (by decide +kernel) ?_
  refine tr_imul dX12_feed_96 ?_
  refine tr_topi 24 (by decide +kernel) ?_
  refine tr_isub dX12_feed_97 ?_
  refine tr_topi 0 (by decide +kernel) ?_
  refine tr_ishr dX12_feed_98 ?_
  refine tr_i2b dX12_feed_99 ?_
  refine tr_bast dX12_feed_100 (hK 184 13 (by decide) kd_184) (cz_inl 900 (hN 184 900 (by decide) ln_184) (by decide +kernel)) ?_
  refine tr_aload_n dX12_feed_101 rfl ?_
  refine tr_dup dX12_feed_102 rfl ?_
  refine tr_getI dX12_feed_103 fl12_378 (hK 183 12 (by decide) kd_183) ?_
  refine tr_topi 15 rfl ?_
  refine tr_iconst (v := 1) dX12_feed_106 (by decide +kernel) ?_
  refine tr_iadd dX12_feed_107 ?_
  refine tr_topi 16 (by decide +kernel) ?_
  refine tr_putI dX12_feed_108 fl12_378 (hK 183 12 (by decide) kd_183) (Or.inl rfl) ?_
  refine tr_iinc dX12_feed_111 rfl (by decide) ?_
  refine tr_goto 23 dX12_feed_114 (by decide) ?_
  refine tr_iload dX12_feed_23 rfl ?_
  refine tr_bipush (v := 20) dX12_feed_25 (by decide +kernel) ?_
  refine tr_icmp_ge 117 dX12_feed_27 (by decide) (fun h => absurd h (by decide +kernel)) (fun _ => ?_)
  refine tr_iload dX12_feed_30 rfl ?_
  refine tr_iconst (v := 4) dX12_feed_32 (by decide +kernel) ?_
  refine tr_icmp_ge 40 dX12_feed_33 (by decide) (fun _ => ?_) (fun h => absurd (by decide +kernel) h)
  refine tr_iload dX12_feed_40 rfl ?_
  refine tr_bipush (v := 8) dX12_feed_42 (by decide +kernel) ?_
  refine tr_icmp_ge 51 dX12_feed_44 (by decide) (fun _ => ?_) (fun h => absurd (by decide +kernel) h)
  refine tr_iload dX12_feed_51 rfl ?_
  refine tr_bipush (v := 12) dX12_feed_53 (by decide +kernel) ?_
  refine tr_icmp_ge 62 dX12_feed_55 (by decide) (fun _ => ?_) (fun h => absurd (by decide +kernel) h)
  refine tr_iload dX12_feed_62 rfl ?_
  refine tr_bipush (v := 16) dX12_feed_64 (by decide +kernel) ?_
  refine tr_icmp_ge 74 dX12_feed_66 (by decide) (fun _ => ?_) (fun h => absurd (by decide +kernel) h)
  refine tr_iload dX12_feed_74 rfl ?_
  refine tr_istore dX12_feed_76 (by decide) (by decide) ?_
  refine tr_aload_n dX12_feed_78 rfl ?_
  refine tr_getR (x := 184) dX12_feed_79 fl12_13 (hK 183 12 (by decide) kd_183) (hR 183 5 (some 184) (by decide +kernel) rf_183_5) ?_
  refine tr_aload_n dX12_feed_82 rfl ?_
  refine tr_getI dX12_feed_83 fl12_378 (hK 183 12 (by decide) kd_183) ?_
  refine tr_topi 16 rfl ?_
  refine tr_iload dX12_feed_86 rfl ?_
  refine tr_bipush (v := 24) dX12_feed_88 (by decide +kernel) ?_
  refine tr_bipush (v := 8) dX12_feed_90 (by decide +kernel) ?_
  refine tr_iload dX12_feed_92 rfl ?_
  refine tr_iconst (v := 4) dX12_feed_94 (by decide +kernel) ?_
  refine tr_irem dX12_feed_95 (by decide +kernel) ?_
  refine tr_topi 0 (by decide +kernel) ?_
  refine tr_imul dX12_feed_96 ?_
  refine tr_topi 0 (by decide +kernel) ?_
  refine tr_isub dX12_feed_97 ?_
  refine tr_topi 24 (by decide +kernel) ?_
  refine tr_ishr dX12_feed_98 ?_
  refine tr_i2b dX12_feed_99 ?_
  refine tr_bast dX12_feed_100 (hK 184 13 (by decide) kd_184) (cz_inl 900 (hN 184 900 (by decide) ln_184) (by decide +kernel)) ?_
  refine tr_aload_n dX12_feed_101 rfl ?_
  refine tr_dup dX12_feed_102 rfl ?_
  refine tr_getI dX12_feed_103 fl12_378 (hK 183 12 (by decide) kd_183) ?_
  refine tr_topi 16 rfl ?_
  refine tr_iconst (v := 1) dX12_feed_106 (by decide +kernel) ?_
  refine tr_iadd dX12_feed_107 ?_
  refine tr_topi 17 (by decide +kernel) ?_
  refine tr_putI dX12_feed_108 fl12_378 (hK 183 12 (by decide) kd_183) (Or.inl rfl) ?_
  refine tr_iinc dX12_feed_111 rfl (by decide) ?_
  refine tr_goto 23 dX12_feed_114 (by decide) ?_
  refine tr_iload dX12_feed_23 rfl ?_
  refine tr_bipush (v := 20) dX12_feed_25 (by decide +kernel) ?_
  refine tr_icmp_ge 117 dX12_feed_27 (by decide) (fun h => absurd h (by decide +kernel)) (fun _ => ?_)
  refine tr_iload dX12_feed_30 rfl ?_
  refine tr_iconst (v := 4) dX12_feed_32 (by decide +kernel) ?_
  refine tr_icmp_ge 40 dX12_feed_33 (by decide) (fun _ => ?_) (fun h => absurd (by decide +kernel) h)
  refine tr_iload dX12_feed_40 rfl ?_
  refine tr_bipush (v := 8) dX12_feed_42 (by decide +kernel) ?_
  refine tr_icmp_ge 51 dX12_feed_44 (by decide) (fun _ => ?_) (fun h => absurd (by decide +kernel) h)
  refine tr_iload dX12_feed_51 rfl ?_
  refine tr_bipush (v := 12) dX12_feed_53 (by decide +kernel) ?_
  refine tr_icmp_ge 62 dX12_feed_55 (by decide) (fun _ => ?_) (fun h => absurd (by decide +kernel) h)
  refine tr_iload dX12_feed_62 rfl ?_
  refine tr_bipush (v := 16) dX12_feed_64 (by decide +kernel) ?_
  refine tr_icmp_ge 74 dX12_feed_66 (by decide) (fun _ => ?_) (fun h => absurd (by decide +kernel) h)
  refine tr_iload dX12_feed_74 rfl ?_
  refine tr_istore dX12_feed_76 (by decide) (by decide) ?_
  refine tr_aload_n dX12_feed_78 rfl ?_
  refine tr_getR (x := 184) dX12_feed_79 fl12_13 (hK 183 12 (by decide) kd_183) (hR 183 5 (some 184) (by decide +kernel) rf_183_5) ?_
  refine tr_aload_n dX12_feed_82 rfl ?_
  refine tr_getI dX12_feed_83 fl12_378 (hK 183 12 (by decide) kd_183) ?_
  refine tr_topi 17 rfl ?_
  refine tr_iload dX12_feed_86 rfl ?_
  refine tr_bipush (v := 24) dX12_feed_88 (by decide +kernel) ?_
  refine tr_bipush (v := 8) dX12_feed_90 (by decide +kernel) ?_
  refine tr_iload dX12_feed_92 rfl ?_
  refine tr_iconst (v := 4) dX12_feed_94 (by decide +kernel) ?_
  refine tr_irem dX12_feed_95 (by decide +kernel) ?_
  refine tr_topi 1 (by decide +kernel) ?_
  refine tr_imul dX12_feed_96 ?_
  refine tr_topi 8 (by decide +kernel) ?_
  refine tr_isub dX12_feed_97 ?_
  refine tr_topi 16 (by decide +kernel) ?_
  refine tr_ishr dX12_feed_98 ?_
  refine tr_i2b dX12_feed_99 ?_
  refine tr_bast dX12_feed_100 (hK 184 13 (by decide) kd_184) (cz_inl 900 (hN 184 900 (by decide) ln_184) (by decide +kernel)) ?_
  refine tr_aload_n dX12_feed_101 rfl ?_
  refine tr_dup dX12_feed_102 rfl ?_
  refine tr_getI dX12_feed_103 fl12_378 (hK 183 12 (by decide) kd_183) ?_
  refine tr_topi 17 rfl ?_
  refine tr_iconst (v := 1) dX12_feed_106 (by decide +kernel) ?_
  refine tr_iadd dX12_feed_107 ?_
  refine tr_topi 18 (by decide +kernel) ?_
  refine tr_putI dX12_feed_108 fl12_378 (hK 183 12 (by decide) kd_183) (Or.inl rfl) ?_
  refine tr_iinc dX12_feed_111 rfl (by decide) ?_
  refine tr_goto 23 dX12_feed_114 (by decide) ?_
  refine tr_iload dX12_feed_23 rfl ?_
  refine tr_bipush (v := 20) dX12_feed_25 (by decide +kernel) ?_
  refine tr_icmp_ge 117 dX12_feed_27 (by decide) (fun h => absurd h (by decide +kernel)) (fun _ => ?_)
  refine tr_iload dX12_feed_30 rfl ?_
  refine tr_iconst (v := 4) dX12_feed_32 (by decide +kernel) ?_
  refine tr_icmp_ge 40 dX12_feed_33 (by decide) (fun _ => ?_) (fun h => absurd (by decide +kernel) h)
  refine tr_iload dX12_feed_40 rfl ?_
  refine tr_bipush (v := 8) dX12_feed_42 (by decide +kernel) ?_
  refine tr_icmp_ge 51 dX12_feed_44 (by decide) (fun _ => ?_) (fun h => absurd (by decide +kernel) h)
  refine tr_iload dX12_feed_51 rfl ?_
  refine tr_bipush (v := 12) dX12_feed_53 (by decide +kernel) ?_
  refine tr_icmp_ge 62 dX12_feed_55 (by decide) (fun _ => ?_) (fun h => absurd (by decide +kernel) h)
  refine tr_iload dX12_feed_62 rfl ?_
  refine tr_bipush (v := 16) dX12_feed_64 (by decide +kernel) ?_
  refine tr_icmp_ge 74 dX12_feed_66 (by decide) (fun _ => ?_) (fun h => absurd (by decide +kernel) h)
  refine tr_iload dX12_feed_74 rfl ?_
  refine tr_istore dX12_feed_76 (by decide) (by decide) ?_
  refine tr_aload_n dX12_feed_78 rfl ?_
  refine tr_getR (x := 184) dX12_feed_79 fl12_13 (hK 183 12 (by decide) kd_183) (hR 183 5 (some 184) (by decide +kernel) rf_183_5) ?_
  refine tr_aload_n dX12_feed_82 rfl ?_
  refine tr_getI dX12_feed_83 fl12_378 (hK 183 12 (by decide) kd_183) ?_
  refine tr_topi 18 rfl ?_
  refine tr_iload dX12_feed_86 rfl ?_
  refine tr_bipush (v := 24) dX12_feed_88 (by decide +kernel) ?_
  refine tr_bipush (v := 8) dX12_feed_90 (by decide +kernel) ?_
  refine tr_iload dX12_feed_92 rfl ?_
  refine tr_iconst (v := 4) dX12_feed_94 (by decide +kernel) ?_
  refine tr_irem dX12_feed_95 (by decide +kernel) ?_
  refine tr_topi 2 (by decide +kernel) ?_
  refine tr_imul dX12_feed_96 ?_
  refine tr_topi 16 (by decide +kernel) ?_
  refine tr_isub dX12_feed_97 ?_
  refine tr_topi 8 (by decide +kernel) ?_
  refine tr_ishr dX12_feed_98 ?_
  refine tr_i2b dX12_feed_99 ?_
  refine tr_bast dX12_feed_100 (hK 184 13 (by decide) kd_184) (cz_inl 900 (hN 184 900 (by decide) ln_184) (by decide +kernel)) ?_
  refine tr_aload_n dX12_feed_101 rfl ?_
  refine tr_dup dX12_feed_102 rfl ?_
  refine tr_getI dX12_feed_103 fl12_378 (hK 183 12 (by decide) kd_183) ?_
  refine tr_topi 18 rfl ?_
  refine tr_iconst (v := 1) dX12_feed_106 (by decide +kernel) ?_
  refine tr_iadd dX12_feed_107 ?_
  refine tr_topi 19 (by decide +kernel) ?_
  refine tr_putI dX12_feed_108 fl12_378 (hK 183 12 (by decide) kd_183) (Or.inl rfl) ?_
  refine tr_iinc dX12_feed_111 rfl (by decide) ?_
  refine tr_goto 23 dX12_feed_114 (by decide) ?_
  refine tr_iload dX12_feed_23 rfl ?_
  refine tr_bipush (v := 20) dX12_feed_25 (by decide +kernel) ?_
  refine tr_icmp_ge 117 dX12_feed_27 (by decide) (fun h => absurd h (by decide +kernel)) (fun _ => ?_)
  refine tr_iload dX12_feed_30 rfl ?_
  refine tr_iconst (v := 4) dX12_feed_32 (by decide +kernel) ?_
  refine tr_icmp_ge 40 dX12_feed_33 (by decide) (fun _ => ?_) (fun h => absurd (by decide +kernel) h)
  refine tr_iload dX12_feed_40 rfl ?_
  refine tr_bipush (v := 8) dX12_feed_42 (by decide +kernel) ?_
  refine tr_icmp_ge 51 dX12_feed_44 (by decide) (fun _ => ?_) (fun h => absurd (by decide +kernel) h)
  refine tr_iload dX12_feed_51 rfl ?_
  refine tr_bipush (v := 12) dX12_feed_53 (by decide +kernel) ?_
  refine tr_icmp_ge 62 dX12_feed_55 (by decide) (fun _ => ?_) (fun h => absurd (by decide +kernel) h)
  refine tr_iload dX12_feed_62 rfl ?_
  refine tr_bipush (v := 16) dX12_feed_64 (by decide +kernel) ?_
  refine tr_icmp_ge 74 dX12_feed_66 (by decide) (fun _ => ?_) (fun h => absurd (by decide +kernel) h)
  refine tr_iload dX12_feed_74 rfl ?_
  refine tr_istore dX12_feed_76 (by decide) (by decide) ?_
  refine tr_aload_n dX12_feed_78 rfl ?_
  refine tr_getR (x := 184) dX12_feed_79 fl12_13 (hK 183 12 (by decide) kd_183) (hR 183 5 (some 184) (by decide +kernel) rf_183_5) ?_
  refine tr_aload_n dX12_feed_82 rfl ?_
  refine tr_getI dX12_feed_83 fl12_378 (hK 183 12 (by decide) kd_183) ?_
  refine tr_topi 19 rfl ?_
  refine tr_iload dX12_feed_86 rfl ?_
  refine tr_bipush (v := 24) dX12_feed_88 (by decide +kernel) ?_
  refine tr_bipush (v := 8) dX12_feed_90 (by decide +kernel) ?_
  refine tr_iload dX12_feed_92 rfl ?_
  refine tr_iconst (v := 4) dX12_feed_94 (by decide +kernel) ?_
  refine tr_irem dX12_feed_95 (by decide +kernel) ?_
  refine tr_topi 3 (by decide +kernel) ?_
  refine tr_imul dX12_feed_96 ?_
  refine tr_topi 24 (by decide +kernel) ?_
  refine tr_isub dX12_feed_97 ?_
  refine tr_topi 0 (by decide +kernel) ?_
  refine tr_ishr dX12_feed_98 ?_
  refine tr_i2b dX12_feed_99 ?_
  refine tr_bast dX12_feed_100 (hK 184 13 (by decide) kd_184) (cz_inl 900 (hN 184 900 (by decide) ln_184) (by decide +kernel)) ?_
  refine tr_aload_n dX12_feed_101 rfl ?_
  refine tr_dup dX12_feed_102 rfl ?_
  refine tr_getI dX12_feed_103 fl12_378 (hK 183 12 (by decide) kd_183) ?_
  refine tr_topi 19 rfl ?_
  refine tr_iconst (v := 1) dX12_feed_106 (by decide +kernel) ?_
  refine tr_iadd dX12_feed_107 ?_
  refine tr_topi 20 (by decide +kernel) ?_
  refine tr_putI dX12_feed_108 fl12_378 (hK 183 12 (by decide) kd_183) (Or.inl rfl) ?_
  refine tr_iinc dX12_feed_111 rfl (by decide) ?_
  refine tr_goto 23 dX12_feed_114 (by decide) ?_
  refine tr_iload dX12_feed_23 rfl ?_
  refine tr_bipush (v := 20) dX12_feed_25 (by decide +kernel) ?_
  refine tr_icmp_ge 117 dX12_feed_27 (by decide) (fun _ => ?_) (fun h => absurd (by decide +kernel) h)
  refine tr_aload_n dX12_feed_117 rfl ?_
  refine tr_getI dX12_feed_118 fl12_378 (hK 183 12 (by decide) kd_183) ?_
  refine tr_topi 20 rfl ?_
  exact tr_iret zX7 dX12_feed_121 rfl (by decide) (by decide) rfl
set_option maxHeartbeats 4000000 in
set_option maxRecDepth 100000 in
theorem fX10_fault {l : Launch} {K N : Nat → Nat} {I : cz_I} {R : cz_R} {L : cz_L} (hf : cz_f1 K N I R) : Con l mX10_fault [.ref 0] 203 K N I R L (fun r cn' K' N' I' R' _ => r = some (.int (0)) ∧ cn' = 203 ∧ K' = K ∧ N' = N ∧ ∀ k : Nat, 183 ≤ k → I' k = I k ∧ R' k = R k) := by
  obtain ⟨hK, hN, hR, hI⟩ := hf
  refine Con.of (by decide +kernel) rfl (Nat.le_of_ble_eq_true rfl) rfl (fun X8 hX8 zX8 => ?_)
  refine tr_aload_n dX10_fault_0 rfl ?_
  refine tr_getI dX10_fault_1 fl10_90 (hK 0 10 (by decide) kd_0) ?_
  refine tr_topi 0 (hI 0 15 (by decide +kernel)) ?_
  exact tr_iret zX8 dX10_fault_4 rfl (by decide) (by decide) ⟨rfl, rfl, rfl, rfl, fun k hk => ⟨by first | rfl | (repeat rw [cz_uIn (by omega)]), by first | rfl | (repeat rw [cz_uRn (by omega)])⟩⟩
set_option maxHeartbeats 4000000 in
set_option maxRecDepth 100000 in
theorem fX12_fault {l : Launch} {K N : Nat → Nat} {I : cz_I} {R : cz_R} {L : cz_L} (hf : cz_f2 K N I R) : Con l mX12_fault [.ref 183] 203 K N I R L (fun r _ _ _ _ _ _ => r = some (.int (0))) := by
  obtain ⟨hK, hN, hR, hI, hI2⟩ := hf
  refine Con.of (by decide +kernel) rfl (Nat.le_of_ble_eq_true rfl) rfl (fun X9 hX9 zX9 => ?_)
  refine tr_aload_n dX12_fault_0 rfl ?_
  refine tr_iconst (v := 0) dX12_fault_1 (by decide +kernel) ?_
  refine tr_putI dX12_fault_2 fl12_70 (hK 183 12 (by decide) kd_183) (Or.inl rfl) ?_
  refine tr_aload_n dX12_fault_5 rfl ?_
  refine tr_getI dX12_fault_6 fl12_128 (hK 183 12 (by decide) kd_183) ?_
  refine tr_topi 0 (hI 183 13 (by decide +kernel)) ?_
  exact tr_iret zX9 dX12_fault_9 rfl (by decide) (by decide) rfl
set_option maxHeartbeats 4000000 in
set_option maxRecDepth 100000 in
theorem fX10_where {l : Launch} {K N : Nat → Nat} {I : cz_I} {R : cz_R} {L : cz_L} (hf : cz_f1 K N I R) : Con l mX10_where [.ref 0] 203 K N I R L (fun r cn' K' N' I' R' _ => r = some (.int ((-1))) ∧ cn' = 203 ∧ K' = K ∧ N' = N ∧ ∀ k : Nat, 183 ≤ k → I' k = I k ∧ R' k = R k) := by
  obtain ⟨hK, hN, hR, hI⟩ := hf
  refine Con.of (by decide +kernel) rfl (Nat.le_of_ble_eq_true rfl) rfl (fun X10 hX10 zX10 => ?_)
  refine tr_aload_n dX10_where_0 rfl ?_
  refine tr_getI dX10_where_1 fl10_112 (hK 0 10 (by decide) kd_0) ?_
  refine tr_topi 0 (hI 0 17 (by decide +kernel)) ?_
  refine tr_iconst (v := 4) dX10_where_4 (by decide +kernel) ?_
  refine tr_icmp_ne 15 dX10_where_5 (by decide) (fun _ => ?_) (fun h => absurd h (by decide +kernel))
  refine tr_iconst (v := (-1)) dX10_where_15 (by decide +kernel) ?_
  exact tr_iret zX10 dX10_where_16 rfl (by decide) (by decide) ⟨rfl, rfl, rfl, rfl, fun k hk => ⟨by first | rfl | (repeat rw [cz_uIn (by omega)]), by first | rfl | (repeat rw [cz_uRn (by omega)])⟩⟩
set_option maxHeartbeats 4000000 in
set_option maxRecDepth 100000 in
theorem fX12_where {l : Launch} {K N : Nat → Nat} {I : cz_I} {R : cz_R} {L : cz_L} (hf : cz_f2 K N I R) : Con l mX12_where [.ref 183] 203 K N I R L (fun r _ _ _ _ _ _ => r = some (.int ((-1)))) := by
  obtain ⟨hK, hN, hR, hI, hI2⟩ := hf
  refine Con.of (by decide +kernel) rfl (Nat.le_of_ble_eq_true rfl) rfl (fun X11 hX11 zX11 => ?_)
  refine tr_aload_n dX12_where_0 rfl ?_
  refine tr_iconst (v := 0) dX12_where_1 (by decide +kernel) ?_
  refine tr_putI dX12_where_2 fl12_70 (hK 183 12 (by decide) kd_183) (Or.inl rfl) ?_
  refine tr_aload_n dX12_where_5 rfl ?_
  refine tr_getI dX12_where_6 fl12_9 (hK 183 12 (by decide) kd_183) ?_
  refine tr_topi (-1) hI2 ?_
  exact tr_iret zX11 dX12_where_9 rfl (by decide) (by decide) rfl
set_option maxHeartbeats 4000000 in
set_option maxRecDepth 100000 in
theorem fX10_sky (a : Int32) {l : Launch} {K N : Nat → Nat} {I : cz_I} {R : cz_R} {L : cz_L} (hf : cz_f1 K N I R) : Con l mX10_sky [.ref 0, .int a] 203 K N I R L (fun r cn' K' N' I' R' _ => r = some (.int ((-1))) ∧ cn' = 203 ∧ K' = K ∧ N' = N ∧ ∀ k : Nat, 183 ≤ k → I' k = I k ∧ R' k = R k) := by
  obtain ⟨hK, hN, hR, hI⟩ := hf
  refine Con.of (by decide +kernel) rfl (Nat.le_of_ble_eq_true rfl) rfl (fun X12 hX12 zX12 => ?_)
  refine tr_aload_n dX10_sky_0 rfl ?_
  refine tr_getZ dX10_sky_1 fl10_95 (hK 0 10 (by decide) kd_0) ?_
  refine tr_topi 0 (hI 0 5 (by decide +kernel)) ?_
  refine tr_if_ne 13 dX10_sky_4 (by decide) (fun h => absurd (by decide +kernel) h) (fun _ => ?_)
  refine tr_aload_n dX10_sky_7 rfl ?_
  refine tr_iconst (v := 1) dX10_sky_8 (by decide +kernel) ?_
  refine tr_inVi (M' := mX10_refused) (as := [_]) dX10_sky_9 lk10_79 inX10_refused seX10_refused myX10_refused (by decide) ⟨by decide, by decide⟩ rfl (hK 0 10 (by decide) kd_0) (Nat.le_of_ble_eq_true rfl) (by decide) (by decide) (Con.of (by decide +kernel) rfl (Nat.le_of_ble_eq_true rfl) rfl (fun X13 hX13 zX13 => ?_))
  refine tr_aload_n dX10_refused_0 rfl ?_
  refine tr_iload_n dX10_refused_1 rfl ?_
  refine tr_putI dX10_refused_2 fl10_112 (hK 0 10 (by decide) kd_0) (Or.inl rfl) ?_
  refine tr_iconst (v := (-1)) dX10_refused_5 (by decide +kernel) ?_
  refine tr_iret zX13 dX10_refused_6 rfl (by decide) (by decide) ⟨_, rfl, ?_⟩
  exact tr_iret zX12 dX10_sky_12 rfl (by decide) (by decide) ⟨rfl, rfl, rfl, rfl, fun k hk => ⟨by first | rfl | (repeat rw [cz_uIn (by omega)]), by first | rfl | (repeat rw [cz_uRn (by omega)])⟩⟩
set_option maxHeartbeats 4000000 in
set_option maxRecDepth 100000 in
theorem fX12_sky (a : Int32) {l : Launch} {K N : Nat → Nat} {I : cz_I} {R : cz_R} {L : cz_L} (hf : cz_f2 K N I R) : Con l mX12_sky [.ref 183, .int a] 203 K N I R L (fun r _ _ _ _ _ _ => r = some (.int ((-1)))) := by
  obtain ⟨hK, hN, hR, hI, hI2⟩ := hf
  refine Con.of (by decide +kernel) rfl (Nat.le_of_ble_eq_true rfl) rfl (fun X14 hX14 zX14 => ?_)
  refine tr_aload_n dX12_sky_0 rfl ?_
  refine tr_iconst (v := 0) dX12_sky_1 (by decide +kernel) ?_
  refine tr_putI dX12_sky_2 fl12_70 (hK 183 12 (by decide) kd_183) (Or.inl rfl) ?_
  refine tr_aload_n dX12_sky_5 rfl ?_
  refine tr_getN dX12_sky_6 fl12_385 (hK 183 12 (by decide) kd_183) (hR 183 3 none (by decide +kernel) (by decide +kernel)) ?_
  refine tr_ifnonnullN dX12_sky_9 ?_
  refine tr_aload_n dX12_sky_12 rfl ?_
  refine tr_iconst (v := 1) dX12_sky_13 (by decide +kernel) ?_
  refine tr_inVi (M' := mX12_refused) (as := [_]) dX12_sky_14 lk12_76 inX12_refused seX12_refused myX12_refused (by decide) ⟨by decide, by decide⟩ rfl (hK 183 12 (by decide) kd_183) (Nat.le_of_ble_eq_true rfl) (by decide) (by decide) (Con.of (by decide +kernel) rfl (Nat.le_of_ble_eq_true rfl) rfl (fun X15 hX15 zX15 => ?_))
  refine tr_aload_n dX12_refused_0 rfl ?_
  refine tr_iload_n dX12_refused_1 rfl ?_
  refine tr_putI dX12_refused_2 fl12_73 (hK 183 12 (by decide) kd_183) (Or.inl rfl) ?_
  refine tr_aload_n dX12_refused_5 rfl ?_
  refine tr_iconst (v := (-1)) dX12_refused_6 (by decide +kernel) ?_
  refine tr_putI dX12_refused_7 fl12_9 (hK 183 12 (by decide) kd_183) (Or.inl rfl) ?_
  refine tr_iconst (v := (-1)) dX12_refused_10 (by decide +kernel) ?_
  refine tr_iret zX15 dX12_refused_11 rfl (by decide) (by decide) ⟨_, rfl, ?_⟩
  exact tr_iret zX14 dX12_sky_17 rfl (by decide) (by decide) rfl
set_option maxHeartbeats 4000000 in
set_option maxRecDepth 100000 in
theorem fX10_light (a b c : Int32) {l : Launch} {K N : Nat → Nat} {I : cz_I} {R : cz_R} {L : cz_L} (hf : cz_f1 K N I R) : Con l mX10_light [.ref 0, .int a, .int b, .int c] 203 K N I R L (fun r cn' K' N' I' R' _ => r = some (.int ((-1))) ∧ cn' = 203 ∧ K' = K ∧ N' = N ∧ ∀ k : Nat, 183 ≤ k → I' k = I k ∧ R' k = R k) := by
  obtain ⟨hK, hN, hR, hI⟩ := hf
  refine Con.of (by decide +kernel) rfl (Nat.le_of_ble_eq_true rfl) rfl (fun X16 hX16 zX16 => ?_)
  refine tr_aload_n dX10_light_0 rfl ?_
  refine tr_iload_n dX10_light_1 rfl ?_
  refine tr_inVi (M' := mX10_isHut) (as := [_]) dX10_light_2 lk10_126 inX10_isHut seX10_isHut myX10_isHut (by decide) ⟨by decide, by decide⟩ rfl (hK 0 10 (by decide) kd_0) (Nat.le_of_ble_eq_true rfl) (by decide) (by decide) (Con.of (by decide +kernel) rfl (Nat.le_of_ble_eq_true rfl) rfl (fun X17 hX17 zX17 => ?_))
  refine tr_iload_n dX10_isHut_0 rfl ?_
  refine tr_if_lt 19 dX10_isHut_1 (by decide) (fun q18 => ?_) (fun q18 => ?_)
  · skip
    refine tr_iconst (v := 0) dX10_isHut_19 (by decide +kernel) ?_
    refine tr_zret zX17 dX10_isHut_20 rfl (Or.inl rfl) (by decide) (by decide) ⟨_, rfl, ?_⟩
    refine tr_if_ne 14 dX10_light_5 (by decide) (fun h => absurd (by decide +kernel) h) (fun _ => ?_)
    refine tr_aload_n dX10_light_8 rfl ?_
    refine tr_iconst (v := 1) dX10_light_9 (by decide +kernel) ?_
    refine tr_inVi (M' := mX10_refused) (as := [_]) dX10_light_10 lk10_79 inX10_refused seX10_refused myX10_refused (by decide) ⟨by decide, by decide⟩ rfl (hK 0 10 (by decide) kd_0) (Nat.le_of_ble_eq_true rfl) (by decide) (by decide) (Con.of (by decide +kernel) rfl (Nat.le_of_ble_eq_true rfl) rfl (fun X19 hX19 zX19 => ?_))
    refine tr_aload_n dX10_refused_0 rfl ?_
    refine tr_iload_n dX10_refused_1 rfl ?_
    refine tr_putI dX10_refused_2 fl10_112 (hK 0 10 (by decide) kd_0) (Or.inl rfl) ?_
    refine tr_iconst (v := (-1)) dX10_refused_5 (by decide +kernel) ?_
    refine tr_iret zX19 dX10_refused_6 rfl (by decide) (by decide) ⟨_, rfl, ?_⟩
    exact tr_iret zX16 dX10_light_13 rfl (by decide) (by decide) ⟨rfl, rfl, rfl, rfl, fun k hk => ⟨by first | rfl | (repeat rw [cz_uIn (by omega)]), by first | rfl | (repeat rw [cz_uRn (by omega)])⟩⟩
  · skip
    refine tr_iload_n dX10_isHut_4 rfl ?_
    refine tr_aload_n dX10_isHut_5 rfl ?_
    refine tr_getR (x := 2) dX10_isHut_6 fl10_16 (hK 0 10 (by decide) kd_0) (hR 0 2 (some 2) (by decide +kernel) rf_0_2) ?_
    refine tr_getI dX10_isHut_9 fl10_332 (hK 2 0 (by decide) kd_2) ?_
    refine tr_topi 0 (hI 2 1 (by decide +kernel)) ?_
    refine tr_icmp_ge 19 dX10_isHut_12 (by decide) (fun q20 => ?_) (fun q20 => ?_)
    · skip
      refine tr_iconst (v := 0) dX10_isHut_19 (by decide +kernel) ?_
      refine tr_zret zX17 dX10_isHut_20 rfl (Or.inl rfl) (by decide) (by decide) ⟨_, rfl, ?_⟩
      refine tr_if_ne 14 dX10_light_5 (by decide) (fun h => absurd (by decide +kernel) h) (fun _ => ?_)
      refine tr_aload_n dX10_light_8 rfl ?_
      refine tr_iconst (v := 1) dX10_light_9 (by decide +kernel) ?_
      refine tr_inVi (M' := mX10_refused) (as := [_]) dX10_light_10 lk10_79 inX10_refused seX10_refused myX10_refused (by decide) ⟨by decide, by decide⟩ rfl (hK 0 10 (by decide) kd_0) (Nat.le_of_ble_eq_true rfl) (by decide) (by decide) (Con.of (by decide +kernel) rfl (Nat.le_of_ble_eq_true rfl) rfl (fun X21 hX21 zX21 => ?_))
      refine tr_aload_n dX10_refused_0 rfl ?_
      refine tr_iload_n dX10_refused_1 rfl ?_
      refine tr_putI dX10_refused_2 fl10_112 (hK 0 10 (by decide) kd_0) (Or.inl rfl) ?_
      refine tr_iconst (v := (-1)) dX10_refused_5 (by decide +kernel) ?_
      refine tr_iret zX21 dX10_refused_6 rfl (by decide) (by decide) ⟨_, rfl, ?_⟩
      exact tr_iret zX16 dX10_light_13 rfl (by decide) (by decide) ⟨rfl, rfl, rfl, rfl, fun k hk => ⟨by first | rfl | (repeat rw [cz_uIn (by omega)]), by first | rfl | (repeat rw [cz_uRn (by omega)])⟩⟩
    · skip
      exfalso
      have e0 : ((0 : Int32)).toInt = 0 := by decide +kernel
      simp only [Int32.lt_iff_toInt_lt, Int32.le_iff_toInt_le, ← Int32.toInt_inj] at q20
      simp only [Int32.lt_iff_toInt_lt, Int32.le_iff_toInt_le, ← Int32.toInt_inj] at q18
      omega
set_option maxHeartbeats 4000000 in
set_option maxRecDepth 100000 in
theorem fX12_light (a b c : Int32) {l : Launch} {K N : Nat → Nat} {I : cz_I} {R : cz_R} {L : cz_L} (hf : cz_f2 K N I R) : Con l mX12_light [.ref 183, .int a, .int b, .int c] 203 K N I R L (fun r _ _ _ _ _ _ => r = some (.int ((-1)))) := by
  obtain ⟨hK, hN, hR, hI, hI2⟩ := hf
  refine Con.of (by decide +kernel) rfl (Nat.le_of_ble_eq_true rfl) rfl (fun X22 hX22 zX22 => ?_)
  refine tr_aload_n dX12_light_0 rfl ?_
  refine tr_iconst (v := 0) dX12_light_1 (by decide +kernel) ?_
  refine tr_putI dX12_light_2 fl12_70 (hK 183 12 (by decide) kd_183) (Or.inl rfl) ?_
  refine tr_aload_n dX12_light_5 rfl ?_
  refine tr_iload_n dX12_light_6 rfl ?_
  refine tr_inVi (M' := mX12_isHut) (as := [_]) dX12_light_7 lk12_446 inX12_isHut seX12_isHut myX12_isHut (by decide) ⟨by decide, by decide⟩ rfl (hK 183 12 (by decide) kd_183) (Nat.le_of_ble_eq_true rfl) (by decide) (by decide) (Con.of (by decide +kernel) rfl (Nat.le_of_ble_eq_true rfl) rfl (fun X23 hX23 zX23 => ?_))
  refine tr_aload_n dX12_isHut_0 rfl ?_
  refine tr_getN dX12_isHut_1 fl12_385 (hK 183 12 (by decide) kd_183) (hR 183 3 none (by decide +kernel) (by decide +kernel)) ?_
  refine tr_ifnullN 26 dX12_isHut_4 (by decide) ?_
  refine tr_iconst (v := 0) dX12_isHut_26 (by decide +kernel) ?_
  refine tr_zret zX23 dX12_isHut_27 rfl (Or.inl rfl) (by decide) (by decide) ⟨_, rfl, ?_⟩
  refine tr_if_ne 19 dX12_light_10 (by decide) (fun h => absurd (by decide +kernel) h) (fun _ => ?_)
  refine tr_aload_n dX12_light_13 rfl ?_
  refine tr_iconst (v := 1) dX12_light_14 (by decide +kernel) ?_
  refine tr_inVi (M' := mX12_refused) (as := [_]) dX12_light_15 lk12_76 inX12_refused seX12_refused myX12_refused (by decide) ⟨by decide, by decide⟩ rfl (hK 183 12 (by decide) kd_183) (Nat.le_of_ble_eq_true rfl) (by decide) (by decide) (Con.of (by decide +kernel) rfl (Nat.le_of_ble_eq_true rfl) rfl (fun X24 hX24 zX24 => ?_))
  refine tr_aload_n dX12_refused_0 rfl ?_
  refine tr_iload_n dX12_refused_1 rfl ?_
  refine tr_putI dX12_refused_2 fl12_73 (hK 183 12 (by decide) kd_183) (Or.inl rfl) ?_
  refine tr_aload_n dX12_refused_5 rfl ?_
  refine tr_iconst (v := (-1)) dX12_refused_6 (by decide +kernel) ?_
  refine tr_putI dX12_refused_7 fl12_9 (hK 183 12 (by decide) kd_183) (Or.inl rfl) ?_
  refine tr_iconst (v := (-1)) dX12_refused_10 (by decide +kernel) ?_
  refine tr_iret zX24 dX12_refused_11 rfl (by decide) (by decide) ⟨_, rfl, ?_⟩
  exact tr_iret zX22 dX12_light_18 rfl (by decide) (by decide) rfl
set_option maxHeartbeats 4000000 in
set_option maxRecDepth 100000 in
theorem fX10_changes (a b : Int32) {l : Launch} {K N : Nat → Nat} {I : cz_I} {R : cz_R} {L : cz_L} (hf : cz_f1 K N I R) : Con l mX10_changes [.ref 0, .int a, .int b] 203 K N I R L (fun r cn' K' N' I' R' _ => r = some (.int ((-1))) ∧ cn' = 203 ∧ K' = K ∧ N' = N ∧ ∀ k : Nat, 183 ≤ k → I' k = I k ∧ R' k = R k) := by
  obtain ⟨hK, hN, hR, hI⟩ := hf
  refine Con.of (by decide +kernel) rfl (Nat.le_of_ble_eq_true rfl) rfl (fun X25 hX25 zX25 => ?_)
  refine tr_aload_n dX10_changes_0 rfl ?_
  refine tr_iload_n dX10_changes_1 rfl ?_
  refine tr_inVi (M' := mX10_isHut) (as := [_]) dX10_changes_2 lk10_126 inX10_isHut seX10_isHut myX10_isHut (by decide) ⟨by decide, by decide⟩ rfl (hK 0 10 (by decide) kd_0) (Nat.le_of_ble_eq_true rfl) (by decide) (by decide) (Con.of (by decide +kernel) rfl (Nat.le_of_ble_eq_true rfl) rfl (fun X26 hX26 zX26 => ?_))
  refine tr_iload_n dX10_isHut_0 rfl ?_
  refine tr_if_lt 19 dX10_isHut_1 (by decide) (fun q27 => ?_) (fun q27 => ?_)
  · skip
    refine tr_iconst (v := 0) dX10_isHut_19 (by decide +kernel) ?_
    refine tr_zret zX26 dX10_isHut_20 rfl (Or.inl rfl) (by decide) (by decide) ⟨_, rfl, ?_⟩
    refine tr_if_ne 14 dX10_changes_5 (by decide) (fun h => absurd (by decide +kernel) h) (fun _ => ?_)
    refine tr_aload_n dX10_changes_8 rfl ?_
    refine tr_iconst (v := 1) dX10_changes_9 (by decide +kernel) ?_
    refine tr_inVi (M' := mX10_refused) (as := [_]) dX10_changes_10 lk10_79 inX10_refused seX10_refused myX10_refused (by decide) ⟨by decide, by decide⟩ rfl (hK 0 10 (by decide) kd_0) (Nat.le_of_ble_eq_true rfl) (by decide) (by decide) (Con.of (by decide +kernel) rfl (Nat.le_of_ble_eq_true rfl) rfl (fun X28 hX28 zX28 => ?_))
    refine tr_aload_n dX10_refused_0 rfl ?_
    refine tr_iload_n dX10_refused_1 rfl ?_
    refine tr_putI dX10_refused_2 fl10_112 (hK 0 10 (by decide) kd_0) (Or.inl rfl) ?_
    refine tr_iconst (v := (-1)) dX10_refused_5 (by decide +kernel) ?_
    refine tr_iret zX28 dX10_refused_6 rfl (by decide) (by decide) ⟨_, rfl, ?_⟩
    exact tr_iret zX25 dX10_changes_13 rfl (by decide) (by decide) ⟨rfl, rfl, rfl, rfl, fun k hk => ⟨by first | rfl | (repeat rw [cz_uIn (by omega)]), by first | rfl | (repeat rw [cz_uRn (by omega)])⟩⟩
  · skip
    refine tr_iload_n dX10_isHut_4 rfl ?_
    refine tr_aload_n dX10_isHut_5 rfl ?_
    refine tr_getR (x := 2) dX10_isHut_6 fl10_16 (hK 0 10 (by decide) kd_0) (hR 0 2 (some 2) (by decide +kernel) rf_0_2) ?_
    refine tr_getI dX10_isHut_9 fl10_332 (hK 2 0 (by decide) kd_2) ?_
    refine tr_topi 0 (hI 2 1 (by decide +kernel)) ?_
    refine tr_icmp_ge 19 dX10_isHut_12 (by decide) (fun q29 => ?_) (fun q29 => ?_)
    · skip
      refine tr_iconst (v := 0) dX10_isHut_19 (by decide +kernel) ?_
      refine tr_zret zX26 dX10_isHut_20 rfl (Or.inl rfl) (by decide) (by decide) ⟨_, rfl, ?_⟩
      refine tr_if_ne 14 dX10_changes_5 (by decide) (fun h => absurd (by decide +kernel) h) (fun _ => ?_)
      refine tr_aload_n dX10_changes_8 rfl ?_
      refine tr_iconst (v := 1) dX10_changes_9 (by decide +kernel) ?_
      refine tr_inVi (M' := mX10_refused) (as := [_]) dX10_changes_10 lk10_79 inX10_refused seX10_refused myX10_refused (by decide) ⟨by decide, by decide⟩ rfl (hK 0 10 (by decide) kd_0) (Nat.le_of_ble_eq_true rfl) (by decide) (by decide) (Con.of (by decide +kernel) rfl (Nat.le_of_ble_eq_true rfl) rfl (fun X30 hX30 zX30 => ?_))
      refine tr_aload_n dX10_refused_0 rfl ?_
      refine tr_iload_n dX10_refused_1 rfl ?_
      refine tr_putI dX10_refused_2 fl10_112 (hK 0 10 (by decide) kd_0) (Or.inl rfl) ?_
      refine tr_iconst (v := (-1)) dX10_refused_5 (by decide +kernel) ?_
      refine tr_iret zX30 dX10_refused_6 rfl (by decide) (by decide) ⟨_, rfl, ?_⟩
      exact tr_iret zX25 dX10_changes_13 rfl (by decide) (by decide) ⟨rfl, rfl, rfl, rfl, fun k hk => ⟨by first | rfl | (repeat rw [cz_uIn (by omega)]), by first | rfl | (repeat rw [cz_uRn (by omega)])⟩⟩
    · skip
      exfalso
      have e0 : ((0 : Int32)).toInt = 0 := by decide +kernel
      simp only [Int32.lt_iff_toInt_lt, Int32.le_iff_toInt_le, ← Int32.toInt_inj] at q29
      simp only [Int32.lt_iff_toInt_lt, Int32.le_iff_toInt_le, ← Int32.toInt_inj] at q27
      omega
set_option maxHeartbeats 4000000 in
set_option maxRecDepth 100000 in
theorem fX12_changes (a b : Int32) {l : Launch} {K N : Nat → Nat} {I : cz_I} {R : cz_R} {L : cz_L} (hf : cz_f2 K N I R) : Con l mX12_changes [.ref 183, .int a, .int b] 203 K N I R L (fun r _ _ _ _ _ _ => r = some (.int ((-1)))) := by
  obtain ⟨hK, hN, hR, hI, hI2⟩ := hf
  refine Con.of (by decide +kernel) rfl (Nat.le_of_ble_eq_true rfl) rfl (fun X31 hX31 zX31 => ?_)
  refine tr_aload_n dX12_changes_0 rfl ?_
  refine tr_iconst (v := 0) dX12_changes_1 (by decide +kernel) ?_
  refine tr_putI dX12_changes_2 fl12_70 (hK 183 12 (by decide) kd_183) (Or.inl rfl) ?_
  refine tr_aload_n dX12_changes_5 rfl ?_
  refine tr_iload_n dX12_changes_6 rfl ?_
  refine tr_inVi (M' := mX12_isHut) (as := [_]) dX12_changes_7 lk12_446 inX12_isHut seX12_isHut myX12_isHut (by decide) ⟨by decide, by decide⟩ rfl (hK 183 12 (by decide) kd_183) (Nat.le_of_ble_eq_true rfl) (by decide) (by decide) (Con.of (by decide +kernel) rfl (Nat.le_of_ble_eq_true rfl) rfl (fun X32 hX32 zX32 => ?_))
  refine tr_aload_n dX12_isHut_0 rfl ?_
  refine tr_getN dX12_isHut_1 fl12_385 (hK 183 12 (by decide) kd_183) (hR 183 3 none (by decide +kernel) (by decide +kernel)) ?_
  refine tr_ifnullN 26 dX12_isHut_4 (by decide) ?_
  refine tr_iconst (v := 0) dX12_isHut_26 (by decide +kernel) ?_
  refine tr_zret zX32 dX12_isHut_27 rfl (Or.inl rfl) (by decide) (by decide) ⟨_, rfl, ?_⟩
  refine tr_if_ne 19 dX12_changes_10 (by decide) (fun h => absurd (by decide +kernel) h) (fun _ => ?_)
  refine tr_aload_n dX12_changes_13 rfl ?_
  refine tr_iconst (v := 1) dX12_changes_14 (by decide +kernel) ?_
  refine tr_inVi (M' := mX12_refused) (as := [_]) dX12_changes_15 lk12_76 inX12_refused seX12_refused myX12_refused (by decide) ⟨by decide, by decide⟩ rfl (hK 183 12 (by decide) kd_183) (Nat.le_of_ble_eq_true rfl) (by decide) (by decide) (Con.of (by decide +kernel) rfl (Nat.le_of_ble_eq_true rfl) rfl (fun X33 hX33 zX33 => ?_))
  refine tr_aload_n dX12_refused_0 rfl ?_
  refine tr_iload_n dX12_refused_1 rfl ?_
  refine tr_putI dX12_refused_2 fl12_73 (hK 183 12 (by decide) kd_183) (Or.inl rfl) ?_
  refine tr_aload_n dX12_refused_5 rfl ?_
  refine tr_iconst (v := (-1)) dX12_refused_6 (by decide +kernel) ?_
  refine tr_putI dX12_refused_7 fl12_9 (hK 183 12 (by decide) kd_183) (Or.inl rfl) ?_
  refine tr_iconst (v := (-1)) dX12_refused_10 (by decide +kernel) ?_
  refine tr_iret zX33 dX12_refused_11 rfl (by decide) (by decide) ⟨_, rfl, ?_⟩
  exact tr_iret zX31 dX12_changes_18 rfl (by decide) (by decide) rfl
set_option maxHeartbeats 4000000 in
set_option maxRecDepth 100000 in
theorem fX10_change (a b : Int32) {l : Launch} {K N : Nat → Nat} {I : cz_I} {R : cz_R} {L : cz_L} (hf : cz_f1 K N I R) : Con l mX10_change [.ref 0, .int a, .int b] 203 K N I R L (fun r cn' K' N' I' R' _ => r = some (.int ((-1))) ∧ cn' = 203 ∧ K' = K ∧ N' = N ∧ ∀ k : Nat, 183 ≤ k → I' k = I k ∧ R' k = R k) := by
  obtain ⟨hK, hN, hR, hI⟩ := hf
  refine Con.of (by decide +kernel) rfl (Nat.le_of_ble_eq_true rfl) rfl (fun X34 hX34 zX34 => ?_)
  refine tr_aload_n dX10_change_0 rfl ?_
  refine tr_iload_n dX10_change_1 rfl ?_
  refine tr_inVi (M' := mX10_isHut) (as := [_]) dX10_change_2 lk10_126 inX10_isHut seX10_isHut myX10_isHut (by decide) ⟨by decide, by decide⟩ rfl (hK 0 10 (by decide) kd_0) (Nat.le_of_ble_eq_true rfl) (by decide) (by decide) (Con.of (by decide +kernel) rfl (Nat.le_of_ble_eq_true rfl) rfl (fun X35 hX35 zX35 => ?_))
  refine tr_iload_n dX10_isHut_0 rfl ?_
  refine tr_if_lt 19 dX10_isHut_1 (by decide) (fun q36 => ?_) (fun q36 => ?_)
  · skip
    refine tr_iconst (v := 0) dX10_isHut_19 (by decide +kernel) ?_
    refine tr_zret zX35 dX10_isHut_20 rfl (Or.inl rfl) (by decide) (by decide) ⟨_, rfl, ?_⟩
    refine tr_if_ne 14 dX10_change_5 (by decide) (fun h => absurd (by decide +kernel) h) (fun _ => ?_)
    refine tr_aload_n dX10_change_8 rfl ?_
    refine tr_iconst (v := 1) dX10_change_9 (by decide +kernel) ?_
    refine tr_inVi (M' := mX10_refused) (as := [_]) dX10_change_10 lk10_79 inX10_refused seX10_refused myX10_refused (by decide) ⟨by decide, by decide⟩ rfl (hK 0 10 (by decide) kd_0) (Nat.le_of_ble_eq_true rfl) (by decide) (by decide) (Con.of (by decide +kernel) rfl (Nat.le_of_ble_eq_true rfl) rfl (fun X37 hX37 zX37 => ?_))
    refine tr_aload_n dX10_refused_0 rfl ?_
    refine tr_iload_n dX10_refused_1 rfl ?_
    refine tr_putI dX10_refused_2 fl10_112 (hK 0 10 (by decide) kd_0) (Or.inl rfl) ?_
    refine tr_iconst (v := (-1)) dX10_refused_5 (by decide +kernel) ?_
    refine tr_iret zX37 dX10_refused_6 rfl (by decide) (by decide) ⟨_, rfl, ?_⟩
    exact tr_iret zX34 dX10_change_13 rfl (by decide) (by decide) ⟨rfl, rfl, rfl, rfl, fun k hk => ⟨by first | rfl | (repeat rw [cz_uIn (by omega)]), by first | rfl | (repeat rw [cz_uRn (by omega)])⟩⟩
  · skip
    refine tr_iload_n dX10_isHut_4 rfl ?_
    refine tr_aload_n dX10_isHut_5 rfl ?_
    refine tr_getR (x := 2) dX10_isHut_6 fl10_16 (hK 0 10 (by decide) kd_0) (hR 0 2 (some 2) (by decide +kernel) rf_0_2) ?_
    refine tr_getI dX10_isHut_9 fl10_332 (hK 2 0 (by decide) kd_2) ?_
    refine tr_topi 0 (hI 2 1 (by decide +kernel)) ?_
    refine tr_icmp_ge 19 dX10_isHut_12 (by decide) (fun q38 => ?_) (fun q38 => ?_)
    · skip
      refine tr_iconst (v := 0) dX10_isHut_19 (by decide +kernel) ?_
      refine tr_zret zX35 dX10_isHut_20 rfl (Or.inl rfl) (by decide) (by decide) ⟨_, rfl, ?_⟩
      refine tr_if_ne 14 dX10_change_5 (by decide) (fun h => absurd (by decide +kernel) h) (fun _ => ?_)
      refine tr_aload_n dX10_change_8 rfl ?_
      refine tr_iconst (v := 1) dX10_change_9 (by decide +kernel) ?_
      refine tr_inVi (M' := mX10_refused) (as := [_]) dX10_change_10 lk10_79 inX10_refused seX10_refused myX10_refused (by decide) ⟨by decide, by decide⟩ rfl (hK 0 10 (by decide) kd_0) (Nat.le_of_ble_eq_true rfl) (by decide) (by decide) (Con.of (by decide +kernel) rfl (Nat.le_of_ble_eq_true rfl) rfl (fun X39 hX39 zX39 => ?_))
      refine tr_aload_n dX10_refused_0 rfl ?_
      refine tr_iload_n dX10_refused_1 rfl ?_
      refine tr_putI dX10_refused_2 fl10_112 (hK 0 10 (by decide) kd_0) (Or.inl rfl) ?_
      refine tr_iconst (v := (-1)) dX10_refused_5 (by decide +kernel) ?_
      refine tr_iret zX39 dX10_refused_6 rfl (by decide) (by decide) ⟨_, rfl, ?_⟩
      exact tr_iret zX34 dX10_change_13 rfl (by decide) (by decide) ⟨rfl, rfl, rfl, rfl, fun k hk => ⟨by first | rfl | (repeat rw [cz_uIn (by omega)]), by first | rfl | (repeat rw [cz_uRn (by omega)])⟩⟩
    · skip
      exfalso
      have e0 : ((0 : Int32)).toInt = 0 := by decide +kernel
      simp only [Int32.lt_iff_toInt_lt, Int32.le_iff_toInt_le, ← Int32.toInt_inj] at q38
      simp only [Int32.lt_iff_toInt_lt, Int32.le_iff_toInt_le, ← Int32.toInt_inj] at q36
      omega
set_option maxHeartbeats 4000000 in
set_option maxRecDepth 100000 in
theorem fX12_change (a b : Int32) {l : Launch} {K N : Nat → Nat} {I : cz_I} {R : cz_R} {L : cz_L} (hf : cz_f2 K N I R) : Con l mX12_change [.ref 183, .int a, .int b] 203 K N I R L (fun r _ _ _ _ _ _ => r = some (.int ((-1)))) := by
  obtain ⟨hK, hN, hR, hI, hI2⟩ := hf
  refine Con.of (by decide +kernel) rfl (Nat.le_of_ble_eq_true rfl) rfl (fun X40 hX40 zX40 => ?_)
  refine tr_aload_n dX12_change_0 rfl ?_
  refine tr_iconst (v := 0) dX12_change_1 (by decide +kernel) ?_
  refine tr_putI dX12_change_2 fl12_70 (hK 183 12 (by decide) kd_183) (Or.inl rfl) ?_
  refine tr_aload_n dX12_change_5 rfl ?_
  refine tr_iload_n dX12_change_6 rfl ?_
  refine tr_inVi (M' := mX12_isHut) (as := [_]) dX12_change_7 lk12_446 inX12_isHut seX12_isHut myX12_isHut (by decide) ⟨by decide, by decide⟩ rfl (hK 183 12 (by decide) kd_183) (Nat.le_of_ble_eq_true rfl) (by decide) (by decide) (Con.of (by decide +kernel) rfl (Nat.le_of_ble_eq_true rfl) rfl (fun X41 hX41 zX41 => ?_))
  refine tr_aload_n dX12_isHut_0 rfl ?_
  refine tr_getN dX12_isHut_1 fl12_385 (hK 183 12 (by decide) kd_183) (hR 183 3 none (by decide +kernel) (by decide +kernel)) ?_
  refine tr_ifnullN 26 dX12_isHut_4 (by decide) ?_
  refine tr_iconst (v := 0) dX12_isHut_26 (by decide +kernel) ?_
  refine tr_zret zX41 dX12_isHut_27 rfl (Or.inl rfl) (by decide) (by decide) ⟨_, rfl, ?_⟩
  refine tr_if_ne 19 dX12_change_10 (by decide) (fun h => absurd (by decide +kernel) h) (fun _ => ?_)
  refine tr_aload_n dX12_change_13 rfl ?_
  refine tr_iconst (v := 1) dX12_change_14 (by decide +kernel) ?_
  refine tr_inVi (M' := mX12_refused) (as := [_]) dX12_change_15 lk12_76 inX12_refused seX12_refused myX12_refused (by decide) ⟨by decide, by decide⟩ rfl (hK 183 12 (by decide) kd_183) (Nat.le_of_ble_eq_true rfl) (by decide) (by decide) (Con.of (by decide +kernel) rfl (Nat.le_of_ble_eq_true rfl) rfl (fun X42 hX42 zX42 => ?_))
  refine tr_aload_n dX12_refused_0 rfl ?_
  refine tr_iload_n dX12_refused_1 rfl ?_
  refine tr_putI dX12_refused_2 fl12_73 (hK 183 12 (by decide) kd_183) (Or.inl rfl) ?_
  refine tr_aload_n dX12_refused_5 rfl ?_
  refine tr_iconst (v := (-1)) dX12_refused_6 (by decide +kernel) ?_
  refine tr_putI dX12_refused_7 fl12_9 (hK 183 12 (by decide) kd_183) (Or.inl rfl) ?_
  refine tr_iconst (v := (-1)) dX12_refused_10 (by decide +kernel) ?_
  refine tr_iret zX42 dX12_refused_11 rfl (by decide) (by decide) ⟨_, rfl, ?_⟩
  exact tr_iret zX40 dX12_change_18 rfl (by decide) (by decide) rfl
set_option maxHeartbeats 4000000 in
set_option maxRecDepth 100000 in
theorem fX10_peak {l : Launch} {K N : Nat → Nat} {I : cz_I} {R : cz_R} {L : cz_L} (hf : cz_f1 K N I R) : Con l mX10_peak [.ref 0] 203 K N I R L (fun r cn' K' N' I' R' _ => r = some (.int ((-1))) ∧ cn' = 203 ∧ K' = K ∧ N' = N ∧ ∀ k : Nat, 183 ≤ k → I' k = I k ∧ R' k = R k) := by
  obtain ⟨hK, hN, hR, hI⟩ := hf
  refine Con.of (by decide +kernel) rfl (Nat.le_of_ble_eq_true rfl) rfl (fun X43 hX43 zX43 => ?_)
  refine tr_aload_n dX10_peak_0 rfl ?_
  refine tr_getZ dX10_peak_1 fl10_95 (hK 0 10 (by decide) kd_0) ?_
  refine tr_topi 0 (hI 0 5 (by decide +kernel)) ?_
  refine tr_if_ne 13 dX10_peak_4 (by decide) (fun h => absurd (by decide +kernel) h) (fun _ => ?_)
  refine tr_aload_n dX10_peak_7 rfl ?_
  refine tr_iconst (v := 1) dX10_peak_8 (by decide +kernel) ?_
  refine tr_inVi (M' := mX10_refused) (as := [_]) dX10_peak_9 lk10_79 inX10_refused seX10_refused myX10_refused (by decide) ⟨by decide, by decide⟩ rfl (hK 0 10 (by decide) kd_0) (Nat.le_of_ble_eq_true rfl) (by decide) (by decide) (Con.of (by decide +kernel) rfl (Nat.le_of_ble_eq_true rfl) rfl (fun X44 hX44 zX44 => ?_))
  refine tr_aload_n dX10_refused_0 rfl ?_
  refine tr_iload_n dX10_refused_1 rfl ?_
  refine tr_putI dX10_refused_2 fl10_112 (hK 0 10 (by decide) kd_0) (Or.inl rfl) ?_
  refine tr_iconst (v := (-1)) dX10_refused_5 (by decide +kernel) ?_
  refine tr_iret zX44 dX10_refused_6 rfl (by decide) (by decide) ⟨_, rfl, ?_⟩
  exact tr_iret zX43 dX10_peak_12 rfl (by decide) (by decide) ⟨rfl, rfl, rfl, rfl, fun k hk => ⟨by first | rfl | (repeat rw [cz_uIn (by omega)]), by first | rfl | (repeat rw [cz_uRn (by omega)])⟩⟩
set_option maxHeartbeats 4000000 in
set_option maxRecDepth 100000 in
theorem fX12_peak {l : Launch} {K N : Nat → Nat} {I : cz_I} {R : cz_R} {L : cz_L} (hf : cz_f2 K N I R) : Con l mX12_peak [.ref 183] 203 K N I R L (fun r _ _ _ _ _ _ => r = some (.int ((-1)))) := by
  obtain ⟨hK, hN, hR, hI, hI2⟩ := hf
  refine Con.of (by decide +kernel) rfl (Nat.le_of_ble_eq_true rfl) rfl (fun X45 hX45 zX45 => ?_)
  refine tr_aload_n dX12_peak_0 rfl ?_
  refine tr_iconst (v := 0) dX12_peak_1 (by decide +kernel) ?_
  refine tr_putI dX12_peak_2 fl12_70 (hK 183 12 (by decide) kd_183) (Or.inl rfl) ?_
  refine tr_aload_n dX12_peak_5 rfl ?_
  refine tr_getN dX12_peak_6 fl12_385 (hK 183 12 (by decide) kd_183) (hR 183 3 none (by decide +kernel) (by decide +kernel)) ?_
  refine tr_ifnonnullN dX12_peak_9 ?_
  refine tr_aload_n dX12_peak_12 rfl ?_
  refine tr_iconst (v := 1) dX12_peak_13 (by decide +kernel) ?_
  refine tr_inVi (M' := mX12_refused) (as := [_]) dX12_peak_14 lk12_76 inX12_refused seX12_refused myX12_refused (by decide) ⟨by decide, by decide⟩ rfl (hK 183 12 (by decide) kd_183) (Nat.le_of_ble_eq_true rfl) (by decide) (by decide) (Con.of (by decide +kernel) rfl (Nat.le_of_ble_eq_true rfl) rfl (fun X46 hX46 zX46 => ?_))
  refine tr_aload_n dX12_refused_0 rfl ?_
  refine tr_iload_n dX12_refused_1 rfl ?_
  refine tr_putI dX12_refused_2 fl12_73 (hK 183 12 (by decide) kd_183) (Or.inl rfl) ?_
  refine tr_aload_n dX12_refused_5 rfl ?_
  refine tr_iconst (v := (-1)) dX12_refused_6 (by decide +kernel) ?_
  refine tr_putI dX12_refused_7 fl12_9 (hK 183 12 (by decide) kd_183) (Or.inl rfl) ?_
  refine tr_iconst (v := (-1)) dX12_refused_10 (by decide +kernel) ?_
  refine tr_iret zX46 dX12_refused_11 rfl (by decide) (by decide) ⟨_, rfl, ?_⟩
  exact tr_iret zX45 dX12_peak_17 rfl (by decide) (by decide) rfl
set_option maxHeartbeats 4000000 in
set_option maxRecDepth 100000 in
theorem fX10_due (a : Int32) {l : Launch} {K N : Nat → Nat} {I : cz_I} {R : cz_R} {L : cz_L} (hf : cz_f1 K N I R) : Con l mX10_due [.ref 0, .int a] 203 K N I R L (fun r cn' K' N' I' R' _ => r = some (.int ((-1))) ∧ cn' = 203 ∧ K' = K ∧ N' = N ∧ ∀ k : Nat, 183 ≤ k → I' k = I k ∧ R' k = R k) := by
  obtain ⟨hK, hN, hR, hI⟩ := hf
  refine Con.of (by decide +kernel) rfl (Nat.le_of_ble_eq_true rfl) rfl (fun X47 hX47 zX47 => ?_)
  refine tr_aload_n dX10_due_0 rfl ?_
  refine tr_getZ dX10_due_1 fl10_95 (hK 0 10 (by decide) kd_0) ?_
  refine tr_topi 0 (hI 0 5 (by decide +kernel)) ?_
  refine tr_if_ne 13 dX10_due_4 (by decide) (fun h => absurd (by decide +kernel) h) (fun _ => ?_)
  refine tr_aload_n dX10_due_7 rfl ?_
  refine tr_iconst (v := 1) dX10_due_8 (by decide +kernel) ?_
  refine tr_inVi (M' := mX10_refused) (as := [_]) dX10_due_9 lk10_79 inX10_refused seX10_refused myX10_refused (by decide) ⟨by decide, by decide⟩ rfl (hK 0 10 (by decide) kd_0) (Nat.le_of_ble_eq_true rfl) (by decide) (by decide) (Con.of (by decide +kernel) rfl (Nat.le_of_ble_eq_true rfl) rfl (fun X48 hX48 zX48 => ?_))
  refine tr_aload_n dX10_refused_0 rfl ?_
  refine tr_iload_n dX10_refused_1 rfl ?_
  refine tr_putI dX10_refused_2 fl10_112 (hK 0 10 (by decide) kd_0) (Or.inl rfl) ?_
  refine tr_iconst (v := (-1)) dX10_refused_5 (by decide +kernel) ?_
  refine tr_iret zX48 dX10_refused_6 rfl (by decide) (by decide) ⟨_, rfl, ?_⟩
  exact tr_iret zX47 dX10_due_12 rfl (by decide) (by decide) ⟨rfl, rfl, rfl, rfl, fun k hk => ⟨by first | rfl | (repeat rw [cz_uIn (by omega)]), by first | rfl | (repeat rw [cz_uRn (by omega)])⟩⟩
set_option maxHeartbeats 4000000 in
set_option maxRecDepth 100000 in
theorem fX12_due (a : Int32) {l : Launch} {K N : Nat → Nat} {I : cz_I} {R : cz_R} {L : cz_L} (hf : cz_f2 K N I R) : Con l mX12_due [.ref 183, .int a] 203 K N I R L (fun r _ _ _ _ _ _ => r = some (.int ((-1)))) := by
  obtain ⟨hK, hN, hR, hI, hI2⟩ := hf
  refine Con.of (by decide +kernel) rfl (Nat.le_of_ble_eq_true rfl) rfl (fun X49 hX49 zX49 => ?_)
  refine tr_aload_n dX12_due_0 rfl ?_
  refine tr_iconst (v := 0) dX12_due_1 (by decide +kernel) ?_
  refine tr_putI dX12_due_2 fl12_70 (hK 183 12 (by decide) kd_183) (Or.inl rfl) ?_
  refine tr_aload_n dX12_due_5 rfl ?_
  refine tr_getN dX12_due_6 fl12_385 (hK 183 12 (by decide) kd_183) (hR 183 3 none (by decide +kernel) (by decide +kernel)) ?_
  refine tr_ifnonnullN dX12_due_9 ?_
  refine tr_aload_n dX12_due_12 rfl ?_
  refine tr_iconst (v := 1) dX12_due_13 (by decide +kernel) ?_
  refine tr_inVi (M' := mX12_refused) (as := [_]) dX12_due_14 lk12_76 inX12_refused seX12_refused myX12_refused (by decide) ⟨by decide, by decide⟩ rfl (hK 183 12 (by decide) kd_183) (Nat.le_of_ble_eq_true rfl) (by decide) (by decide) (Con.of (by decide +kernel) rfl (Nat.le_of_ble_eq_true rfl) rfl (fun X50 hX50 zX50 => ?_))
  refine tr_aload_n dX12_refused_0 rfl ?_
  refine tr_iload_n dX12_refused_1 rfl ?_
  refine tr_putI dX12_refused_2 fl12_73 (hK 183 12 (by decide) kd_183) (Or.inl rfl) ?_
  refine tr_aload_n dX12_refused_5 rfl ?_
  refine tr_iconst (v := (-1)) dX12_refused_6 (by decide +kernel) ?_
  refine tr_putI dX12_refused_7 fl12_9 (hK 183 12 (by decide) kd_183) (Or.inl rfl) ?_
  refine tr_iconst (v := (-1)) dX12_refused_10 (by decide +kernel) ?_
  refine tr_iret zX50 dX12_refused_11 rfl (by decide) (by decide) ⟨_, rfl, ?_⟩
  exact tr_iret zX49 dX12_due_17 rfl (by decide) (by decide) rfl
set_option maxHeartbeats 4000000 in
set_option maxRecDepth 100000 in
theorem fX10_awake (a b : Int32) {l : Launch} {K N : Nat → Nat} {I : cz_I} {R : cz_R} {L : cz_L} (hf : cz_f1 K N I R) : Con l mX10_awake [.ref 0, .int a, .int b] 203 K N I R L (fun r cn' K' N' I' R' _ => r = some (.int ((-1))) ∧ cn' = 203 ∧ K' = K ∧ N' = N ∧ ∀ k : Nat, 183 ≤ k → I' k = I k ∧ R' k = R k) := by
  obtain ⟨hK, hN, hR, hI⟩ := hf
  refine Con.of (by decide +kernel) rfl (Nat.le_of_ble_eq_true rfl) rfl (fun X51 hX51 zX51 => ?_)
  refine tr_aload_n dX10_awake_0 rfl ?_
  refine tr_iload_n dX10_awake_1 rfl ?_
  refine tr_inVi (M' := mX10_isTurner) (as := [_]) dX10_awake_2 lk10_152 inX10_isTurner seX10_isTurner myX10_isTurner (by decide) ⟨by decide, by decide⟩ rfl (hK 0 10 (by decide) kd_0) (Nat.le_of_ble_eq_true rfl) (by decide) (by decide) (Con.of (by decide +kernel) rfl (Nat.le_of_ble_eq_true rfl) rfl (fun X52 hX52 zX52 => ?_))
  refine tr_iload_n dX10_isTurner_0 rfl ?_
  refine tr_if_lt 19 dX10_isTurner_1 (by decide) (fun q53 => ?_) (fun q53 => ?_)
  · skip
    refine tr_iconst (v := 0) dX10_isTurner_19 (by decide +kernel) ?_
    refine tr_zret zX52 dX10_isTurner_20 rfl (Or.inl rfl) (by decide) (by decide) ⟨_, rfl, ?_⟩
    refine tr_if_ne 14 dX10_awake_5 (by decide) (fun h => absurd (by decide +kernel) h) (fun _ => ?_)
    refine tr_aload_n dX10_awake_8 rfl ?_
    refine tr_iconst (v := 1) dX10_awake_9 (by decide +kernel) ?_
    refine tr_inVi (M' := mX10_refused) (as := [_]) dX10_awake_10 lk10_79 inX10_refused seX10_refused myX10_refused (by decide) ⟨by decide, by decide⟩ rfl (hK 0 10 (by decide) kd_0) (Nat.le_of_ble_eq_true rfl) (by decide) (by decide) (Con.of (by decide +kernel) rfl (Nat.le_of_ble_eq_true rfl) rfl (fun X54 hX54 zX54 => ?_))
    refine tr_aload_n dX10_refused_0 rfl ?_
    refine tr_iload_n dX10_refused_1 rfl ?_
    refine tr_putI dX10_refused_2 fl10_112 (hK 0 10 (by decide) kd_0) (Or.inl rfl) ?_
    refine tr_iconst (v := (-1)) dX10_refused_5 (by decide +kernel) ?_
    refine tr_iret zX54 dX10_refused_6 rfl (by decide) (by decide) ⟨_, rfl, ?_⟩
    exact tr_iret zX51 dX10_awake_13 rfl (by decide) (by decide) ⟨rfl, rfl, rfl, rfl, fun k hk => ⟨by first | rfl | (repeat rw [cz_uIn (by omega)]), by first | rfl | (repeat rw [cz_uRn (by omega)])⟩⟩
  · skip
    refine tr_iload_n dX10_isTurner_4 rfl ?_
    refine tr_aload_n dX10_isTurner_5 rfl ?_
    refine tr_getR (x := 2) dX10_isTurner_6 fl10_16 (hK 0 10 (by decide) kd_0) (hR 0 2 (some 2) (by decide +kernel) rf_0_2) ?_
    refine tr_getI dX10_isTurner_9 fl10_335 (hK 2 0 (by decide) kd_2) ?_
    refine tr_topi 0 (hI 2 9 (by decide +kernel)) ?_
    refine tr_icmp_ge 19 dX10_isTurner_12 (by decide) (fun q55 => ?_) (fun q55 => ?_)
    · skip
      refine tr_iconst (v := 0) dX10_isTurner_19 (by decide +kernel) ?_
      refine tr_zret zX52 dX10_isTurner_20 rfl (Or.inl rfl) (by decide) (by decide) ⟨_, rfl, ?_⟩
      refine tr_if_ne 14 dX10_awake_5 (by decide) (fun h => absurd (by decide +kernel) h) (fun _ => ?_)
      refine tr_aload_n dX10_awake_8 rfl ?_
      refine tr_iconst (v := 1) dX10_awake_9 (by decide +kernel) ?_
      refine tr_inVi (M' := mX10_refused) (as := [_]) dX10_awake_10 lk10_79 inX10_refused seX10_refused myX10_refused (by decide) ⟨by decide, by decide⟩ rfl (hK 0 10 (by decide) kd_0) (Nat.le_of_ble_eq_true rfl) (by decide) (by decide) (Con.of (by decide +kernel) rfl (Nat.le_of_ble_eq_true rfl) rfl (fun X56 hX56 zX56 => ?_))
      refine tr_aload_n dX10_refused_0 rfl ?_
      refine tr_iload_n dX10_refused_1 rfl ?_
      refine tr_putI dX10_refused_2 fl10_112 (hK 0 10 (by decide) kd_0) (Or.inl rfl) ?_
      refine tr_iconst (v := (-1)) dX10_refused_5 (by decide +kernel) ?_
      refine tr_iret zX56 dX10_refused_6 rfl (by decide) (by decide) ⟨_, rfl, ?_⟩
      exact tr_iret zX51 dX10_awake_13 rfl (by decide) (by decide) ⟨rfl, rfl, rfl, rfl, fun k hk => ⟨by first | rfl | (repeat rw [cz_uIn (by omega)]), by first | rfl | (repeat rw [cz_uRn (by omega)])⟩⟩
    · skip
      exfalso
      have e0 : ((0 : Int32)).toInt = 0 := by decide +kernel
      simp only [Int32.lt_iff_toInt_lt, Int32.le_iff_toInt_le, ← Int32.toInt_inj] at q55
      simp only [Int32.lt_iff_toInt_lt, Int32.le_iff_toInt_le, ← Int32.toInt_inj] at q53
      omega
set_option maxHeartbeats 4000000 in
set_option maxRecDepth 100000 in
theorem fX12_awake (a b : Int32) {l : Launch} {K N : Nat → Nat} {I : cz_I} {R : cz_R} {L : cz_L} (hf : cz_f2 K N I R) : Con l mX12_awake [.ref 183, .int a, .int b] 203 K N I R L (fun r _ _ _ _ _ _ => r = some (.int ((-1)))) := by
  obtain ⟨hK, hN, hR, hI, hI2⟩ := hf
  refine Con.of (by decide +kernel) rfl (Nat.le_of_ble_eq_true rfl) rfl (fun X57 hX57 zX57 => ?_)
  refine tr_aload_n dX12_awake_0 rfl ?_
  refine tr_iconst (v := 0) dX12_awake_1 (by decide +kernel) ?_
  refine tr_putI dX12_awake_2 fl12_70 (hK 183 12 (by decide) kd_183) (Or.inl rfl) ?_
  refine tr_aload_n dX12_awake_5 rfl ?_
  refine tr_iload_n dX12_awake_6 rfl ?_
  refine tr_inVi (M' := mX12_isTurner) (as := [_]) dX12_awake_7 lk12_452 inX12_isTurner seX12_isTurner myX12_isTurner (by decide) ⟨by decide, by decide⟩ rfl (hK 183 12 (by decide) kd_183) (Nat.le_of_ble_eq_true rfl) (by decide) (by decide) (Con.of (by decide +kernel) rfl (Nat.le_of_ble_eq_true rfl) rfl (fun X58 hX58 zX58 => ?_))
  refine tr_aload_n dX12_isTurner_0 rfl ?_
  refine tr_getN dX12_isTurner_1 fl12_385 (hK 183 12 (by decide) kd_183) (hR 183 3 none (by decide +kernel) (by decide +kernel)) ?_
  refine tr_ifnullN 26 dX12_isTurner_4 (by decide) ?_
  refine tr_iconst (v := 0) dX12_isTurner_26 (by decide +kernel) ?_
  refine tr_zret zX58 dX12_isTurner_27 rfl (Or.inl rfl) (by decide) (by decide) ⟨_, rfl, ?_⟩
  refine tr_if_ne 19 dX12_awake_10 (by decide) (fun h => absurd (by decide +kernel) h) (fun _ => ?_)
  refine tr_aload_n dX12_awake_13 rfl ?_
  refine tr_iconst (v := 1) dX12_awake_14 (by decide +kernel) ?_
  refine tr_inVi (M' := mX12_refused) (as := [_]) dX12_awake_15 lk12_76 inX12_refused seX12_refused myX12_refused (by decide) ⟨by decide, by decide⟩ rfl (hK 183 12 (by decide) kd_183) (Nat.le_of_ble_eq_true rfl) (by decide) (by decide) (Con.of (by decide +kernel) rfl (Nat.le_of_ble_eq_true rfl) rfl (fun X59 hX59 zX59 => ?_))
  refine tr_aload_n dX12_refused_0 rfl ?_
  refine tr_iload_n dX12_refused_1 rfl ?_
  refine tr_putI dX12_refused_2 fl12_73 (hK 183 12 (by decide) kd_183) (Or.inl rfl) ?_
  refine tr_aload_n dX12_refused_5 rfl ?_
  refine tr_iconst (v := (-1)) dX12_refused_6 (by decide +kernel) ?_
  refine tr_putI dX12_refused_7 fl12_9 (hK 183 12 (by decide) kd_183) (Or.inl rfl) ?_
  refine tr_iconst (v := (-1)) dX12_refused_10 (by decide +kernel) ?_
  refine tr_iret zX59 dX12_refused_11 rfl (by decide) (by decide) ⟨_, rfl, ?_⟩
  exact tr_iret zX57 dX12_awake_18 rfl (by decide) (by decide) rfl
set_option maxHeartbeats 4000000 in
set_option maxRecDepth 100000 in
theorem fX10_notices (a b c : Int32) {l : Launch} {K N : Nat → Nat} {I : cz_I} {R : cz_R} {L : cz_L} (hf : cz_f1 K N I R) : Con l mX10_notices [.ref 0, .int a, .int b, .int c] 203 K N I R L (fun r cn' K' N' I' R' _ => r = some (.int ((-1))) ∧ cn' = 203 ∧ K' = K ∧ N' = N ∧ ∀ k : Nat, 183 ≤ k → I' k = I k ∧ R' k = R k) := by
  obtain ⟨hK, hN, hR, hI⟩ := hf
  refine Con.of (by decide +kernel) rfl (Nat.le_of_ble_eq_true rfl) rfl (fun X60 hX60 zX60 => ?_)
  refine tr_aload_n dX10_notices_0 rfl ?_
  refine tr_iload_n dX10_notices_1 rfl ?_
  refine tr_inVi (M' := mX10_isTurner) (as := [_]) dX10_notices_2 lk10_152 inX10_isTurner seX10_isTurner myX10_isTurner (by decide) ⟨by decide, by decide⟩ rfl (hK 0 10 (by decide) kd_0) (Nat.le_of_ble_eq_true rfl) (by decide) (by decide) (Con.of (by decide +kernel) rfl (Nat.le_of_ble_eq_true rfl) rfl (fun X61 hX61 zX61 => ?_))
  refine tr_iload_n dX10_isTurner_0 rfl ?_
  refine tr_if_lt 19 dX10_isTurner_1 (by decide) (fun q62 => ?_) (fun q62 => ?_)
  · skip
    refine tr_iconst (v := 0) dX10_isTurner_19 (by decide +kernel) ?_
    refine tr_zret zX61 dX10_isTurner_20 rfl (Or.inl rfl) (by decide) (by decide) ⟨_, rfl, ?_⟩
    refine tr_if_eq 16 dX10_notices_5 (by decide) (fun _ => ?_) (fun h => absurd (by decide +kernel) h)
    refine tr_aload_n dX10_notices_16 rfl ?_
    refine tr_iconst (v := 1) dX10_notices_17 (by decide +kernel) ?_
    refine tr_inVi (M' := mX10_refused) (as := [_]) dX10_notices_18 lk10_79 inX10_refused seX10_refused myX10_refused (by decide) ⟨by decide, by decide⟩ rfl (hK 0 10 (by decide) kd_0) (Nat.le_of_ble_eq_true rfl) (by decide) (by decide) (Con.of (by decide +kernel) rfl (Nat.le_of_ble_eq_true rfl) rfl (fun X63 hX63 zX63 => ?_))
    refine tr_aload_n dX10_refused_0 rfl ?_
    refine tr_iload_n dX10_refused_1 rfl ?_
    refine tr_putI dX10_refused_2 fl10_112 (hK 0 10 (by decide) kd_0) (Or.inl rfl) ?_
    refine tr_iconst (v := (-1)) dX10_refused_5 (by decide +kernel) ?_
    refine tr_iret zX63 dX10_refused_6 rfl (by decide) (by decide) ⟨_, rfl, ?_⟩
    exact tr_iret zX60 dX10_notices_21 rfl (by decide) (by decide) ⟨rfl, rfl, rfl, rfl, fun k hk => ⟨by first | rfl | (repeat rw [cz_uIn (by omega)]), by first | rfl | (repeat rw [cz_uRn (by omega)])⟩⟩
  · skip
    refine tr_iload_n dX10_isTurner_4 rfl ?_
    refine tr_aload_n dX10_isTurner_5 rfl ?_
    refine tr_getR (x := 2) dX10_isTurner_6 fl10_16 (hK 0 10 (by decide) kd_0) (hR 0 2 (some 2) (by decide +kernel) rf_0_2) ?_
    refine tr_getI dX10_isTurner_9 fl10_335 (hK 2 0 (by decide) kd_2) ?_
    refine tr_topi 0 (hI 2 9 (by decide +kernel)) ?_
    refine tr_icmp_ge 19 dX10_isTurner_12 (by decide) (fun q64 => ?_) (fun q64 => ?_)
    · skip
      refine tr_iconst (v := 0) dX10_isTurner_19 (by decide +kernel) ?_
      refine tr_zret zX61 dX10_isTurner_20 rfl (Or.inl rfl) (by decide) (by decide) ⟨_, rfl, ?_⟩
      refine tr_if_eq 16 dX10_notices_5 (by decide) (fun _ => ?_) (fun h => absurd (by decide +kernel) h)
      refine tr_aload_n dX10_notices_16 rfl ?_
      refine tr_iconst (v := 1) dX10_notices_17 (by decide +kernel) ?_
      refine tr_inVi (M' := mX10_refused) (as := [_]) dX10_notices_18 lk10_79 inX10_refused seX10_refused myX10_refused (by decide) ⟨by decide, by decide⟩ rfl (hK 0 10 (by decide) kd_0) (Nat.le_of_ble_eq_true rfl) (by decide) (by decide) (Con.of (by decide +kernel) rfl (Nat.le_of_ble_eq_true rfl) rfl (fun X65 hX65 zX65 => ?_))
      refine tr_aload_n dX10_refused_0 rfl ?_
      refine tr_iload_n dX10_refused_1 rfl ?_
      refine tr_putI dX10_refused_2 fl10_112 (hK 0 10 (by decide) kd_0) (Or.inl rfl) ?_
      refine tr_iconst (v := (-1)) dX10_refused_5 (by decide +kernel) ?_
      refine tr_iret zX65 dX10_refused_6 rfl (by decide) (by decide) ⟨_, rfl, ?_⟩
      exact tr_iret zX60 dX10_notices_21 rfl (by decide) (by decide) ⟨rfl, rfl, rfl, rfl, fun k hk => ⟨by first | rfl | (repeat rw [cz_uIn (by omega)]), by first | rfl | (repeat rw [cz_uRn (by omega)])⟩⟩
    · skip
      exfalso
      have e0 : ((0 : Int32)).toInt = 0 := by decide +kernel
      simp only [Int32.lt_iff_toInt_lt, Int32.le_iff_toInt_le, ← Int32.toInt_inj] at q64
      simp only [Int32.lt_iff_toInt_lt, Int32.le_iff_toInt_le, ← Int32.toInt_inj] at q62
      omega
set_option maxHeartbeats 4000000 in
set_option maxRecDepth 100000 in
theorem fX12_notices (a b c : Int32) {l : Launch} {K N : Nat → Nat} {I : cz_I} {R : cz_R} {L : cz_L} (hf : cz_f2 K N I R) : Con l mX12_notices [.ref 183, .int a, .int b, .int c] 203 K N I R L (fun r _ _ _ _ _ _ => r = some (.int ((-1)))) := by
  obtain ⟨hK, hN, hR, hI, hI2⟩ := hf
  refine Con.of (by decide +kernel) rfl (Nat.le_of_ble_eq_true rfl) rfl (fun X66 hX66 zX66 => ?_)
  refine tr_aload_n dX12_notices_0 rfl ?_
  refine tr_iconst (v := 0) dX12_notices_1 (by decide +kernel) ?_
  refine tr_putI dX12_notices_2 fl12_70 (hK 183 12 (by decide) kd_183) (Or.inl rfl) ?_
  refine tr_aload_n dX12_notices_5 rfl ?_
  refine tr_iload_n dX12_notices_6 rfl ?_
  refine tr_inVi (M' := mX12_isTurner) (as := [_]) dX12_notices_7 lk12_452 inX12_isTurner seX12_isTurner myX12_isTurner (by decide) ⟨by decide, by decide⟩ rfl (hK 183 12 (by decide) kd_183) (Nat.le_of_ble_eq_true rfl) (by decide) (by decide) (Con.of (by decide +kernel) rfl (Nat.le_of_ble_eq_true rfl) rfl (fun X67 hX67 zX67 => ?_))
  refine tr_aload_n dX12_isTurner_0 rfl ?_
  refine tr_getN dX12_isTurner_1 fl12_385 (hK 183 12 (by decide) kd_183) (hR 183 3 none (by decide +kernel) (by decide +kernel)) ?_
  refine tr_ifnullN 26 dX12_isTurner_4 (by decide) ?_
  refine tr_iconst (v := 0) dX12_isTurner_26 (by decide +kernel) ?_
  refine tr_zret zX67 dX12_isTurner_27 rfl (Or.inl rfl) (by decide) (by decide) ⟨_, rfl, ?_⟩
  refine tr_if_eq 21 dX12_notices_10 (by decide) (fun _ => ?_) (fun h => absurd (by decide +kernel) h)
  refine tr_aload_n dX12_notices_21 rfl ?_
  refine tr_iconst (v := 1) dX12_notices_22 (by decide +kernel) ?_
  refine tr_inVi (M' := mX12_refused) (as := [_]) dX12_notices_23 lk12_76 inX12_refused seX12_refused myX12_refused (by decide) ⟨by decide, by decide⟩ rfl (hK 183 12 (by decide) kd_183) (Nat.le_of_ble_eq_true rfl) (by decide) (by decide) (Con.of (by decide +kernel) rfl (Nat.le_of_ble_eq_true rfl) rfl (fun X68 hX68 zX68 => ?_))
  refine tr_aload_n dX12_refused_0 rfl ?_
  refine tr_iload_n dX12_refused_1 rfl ?_
  refine tr_putI dX12_refused_2 fl12_73 (hK 183 12 (by decide) kd_183) (Or.inl rfl) ?_
  refine tr_aload_n dX12_refused_5 rfl ?_
  refine tr_iconst (v := (-1)) dX12_refused_6 (by decide +kernel) ?_
  refine tr_putI dX12_refused_7 fl12_9 (hK 183 12 (by decide) kd_183) (Or.inl rfl) ?_
  refine tr_iconst (v := (-1)) dX12_refused_10 (by decide +kernel) ?_
  refine tr_iret zX68 dX12_refused_11 rfl (by decide) (by decide) ⟨_, rfl, ?_⟩
  exact tr_iret zX66 dX12_notices_26 rfl (by decide) (by decide) rfl
set_option maxHeartbeats 4000000 in
set_option maxRecDepth 100000 in
theorem fX10_work (a b : Int32) {l : Launch} {K N : Nat → Nat} {I : cz_I} {R : cz_R} {L : cz_L} (hf : cz_f1 K N I R) : Con l mX10_work [.ref 0, .int a, .int b] 203 K N I R L (fun r cn' K' N' I' R' _ => r = some (.int ((-1))) ∧ cn' = 203 ∧ K' = K ∧ N' = N ∧ ∀ k : Nat, 183 ≤ k → I' k = I k ∧ R' k = R k) := by
  obtain ⟨hK, hN, hR, hI⟩ := hf
  refine Con.of (by decide +kernel) rfl (Nat.le_of_ble_eq_true rfl) rfl (fun X69 hX69 zX69 => ?_)
  refine tr_aload_n dX10_work_0 rfl ?_
  refine tr_iload_n dX10_work_1 rfl ?_
  refine tr_inVi (M' := mX10_isTurner) (as := [_]) dX10_work_2 lk10_152 inX10_isTurner seX10_isTurner myX10_isTurner (by decide) ⟨by decide, by decide⟩ rfl (hK 0 10 (by decide) kd_0) (Nat.le_of_ble_eq_true rfl) (by decide) (by decide) (Con.of (by decide +kernel) rfl (Nat.le_of_ble_eq_true rfl) rfl (fun X70 hX70 zX70 => ?_))
  refine tr_iload_n dX10_isTurner_0 rfl ?_
  refine tr_if_lt 19 dX10_isTurner_1 (by decide) (fun q71 => ?_) (fun q71 => ?_)
  · skip
    refine tr_iconst (v := 0) dX10_isTurner_19 (by decide +kernel) ?_
    refine tr_zret zX70 dX10_isTurner_20 rfl (Or.inl rfl) (by decide) (by decide) ⟨_, rfl, ?_⟩
    refine tr_if_ne 14 dX10_work_5 (by decide) (fun h => absurd (by decide +kernel) h) (fun _ => ?_)
    refine tr_aload_n dX10_work_8 rfl ?_
    refine tr_iconst (v := 1) dX10_work_9 (by decide +kernel) ?_
    refine tr_inVi (M' := mX10_refused) (as := [_]) dX10_work_10 lk10_79 inX10_refused seX10_refused myX10_refused (by decide) ⟨by decide, by decide⟩ rfl (hK 0 10 (by decide) kd_0) (Nat.le_of_ble_eq_true rfl) (by decide) (by decide) (Con.of (by decide +kernel) rfl (Nat.le_of_ble_eq_true rfl) rfl (fun X72 hX72 zX72 => ?_))
    refine tr_aload_n dX10_refused_0 rfl ?_
    refine tr_iload_n dX10_refused_1 rfl ?_
    refine tr_putI dX10_refused_2 fl10_112 (hK 0 10 (by decide) kd_0) (Or.inl rfl) ?_
    refine tr_iconst (v := (-1)) dX10_refused_5 (by decide +kernel) ?_
    refine tr_iret zX72 dX10_refused_6 rfl (by decide) (by decide) ⟨_, rfl, ?_⟩
    exact tr_iret zX69 dX10_work_13 rfl (by decide) (by decide) ⟨rfl, rfl, rfl, rfl, fun k hk => ⟨by first | rfl | (repeat rw [cz_uIn (by omega)]), by first | rfl | (repeat rw [cz_uRn (by omega)])⟩⟩
  · skip
    refine tr_iload_n dX10_isTurner_4 rfl ?_
    refine tr_aload_n dX10_isTurner_5 rfl ?_
    refine tr_getR (x := 2) dX10_isTurner_6 fl10_16 (hK 0 10 (by decide) kd_0) (hR 0 2 (some 2) (by decide +kernel) rf_0_2) ?_
    refine tr_getI dX10_isTurner_9 fl10_335 (hK 2 0 (by decide) kd_2) ?_
    refine tr_topi 0 (hI 2 9 (by decide +kernel)) ?_
    refine tr_icmp_ge 19 dX10_isTurner_12 (by decide) (fun q73 => ?_) (fun q73 => ?_)
    · skip
      refine tr_iconst (v := 0) dX10_isTurner_19 (by decide +kernel) ?_
      refine tr_zret zX70 dX10_isTurner_20 rfl (Or.inl rfl) (by decide) (by decide) ⟨_, rfl, ?_⟩
      refine tr_if_ne 14 dX10_work_5 (by decide) (fun h => absurd (by decide +kernel) h) (fun _ => ?_)
      refine tr_aload_n dX10_work_8 rfl ?_
      refine tr_iconst (v := 1) dX10_work_9 (by decide +kernel) ?_
      refine tr_inVi (M' := mX10_refused) (as := [_]) dX10_work_10 lk10_79 inX10_refused seX10_refused myX10_refused (by decide) ⟨by decide, by decide⟩ rfl (hK 0 10 (by decide) kd_0) (Nat.le_of_ble_eq_true rfl) (by decide) (by decide) (Con.of (by decide +kernel) rfl (Nat.le_of_ble_eq_true rfl) rfl (fun X74 hX74 zX74 => ?_))
      refine tr_aload_n dX10_refused_0 rfl ?_
      refine tr_iload_n dX10_refused_1 rfl ?_
      refine tr_putI dX10_refused_2 fl10_112 (hK 0 10 (by decide) kd_0) (Or.inl rfl) ?_
      refine tr_iconst (v := (-1)) dX10_refused_5 (by decide +kernel) ?_
      refine tr_iret zX74 dX10_refused_6 rfl (by decide) (by decide) ⟨_, rfl, ?_⟩
      exact tr_iret zX69 dX10_work_13 rfl (by decide) (by decide) ⟨rfl, rfl, rfl, rfl, fun k hk => ⟨by first | rfl | (repeat rw [cz_uIn (by omega)]), by first | rfl | (repeat rw [cz_uRn (by omega)])⟩⟩
    · skip
      exfalso
      have e0 : ((0 : Int32)).toInt = 0 := by decide +kernel
      simp only [Int32.lt_iff_toInt_lt, Int32.le_iff_toInt_le, ← Int32.toInt_inj] at q73
      simp only [Int32.lt_iff_toInt_lt, Int32.le_iff_toInt_le, ← Int32.toInt_inj] at q71
      omega
set_option maxHeartbeats 4000000 in
set_option maxRecDepth 100000 in
theorem fX12_work (a b : Int32) {l : Launch} {K N : Nat → Nat} {I : cz_I} {R : cz_R} {L : cz_L} (hf : cz_f2 K N I R) : Con l mX12_work [.ref 183, .int a, .int b] 203 K N I R L (fun r _ _ _ _ _ _ => r = some (.int ((-1)))) := by
  obtain ⟨hK, hN, hR, hI, hI2⟩ := hf
  refine Con.of (by decide +kernel) rfl (Nat.le_of_ble_eq_true rfl) rfl (fun X75 hX75 zX75 => ?_)
  refine tr_aload_n dX12_work_0 rfl ?_
  refine tr_iconst (v := 0) dX12_work_1 (by decide +kernel) ?_
  refine tr_putI dX12_work_2 fl12_70 (hK 183 12 (by decide) kd_183) (Or.inl rfl) ?_
  refine tr_aload_n dX12_work_5 rfl ?_
  refine tr_iload_n dX12_work_6 rfl ?_
  refine tr_inVi (M' := mX12_isTurner) (as := [_]) dX12_work_7 lk12_452 inX12_isTurner seX12_isTurner myX12_isTurner (by decide) ⟨by decide, by decide⟩ rfl (hK 183 12 (by decide) kd_183) (Nat.le_of_ble_eq_true rfl) (by decide) (by decide) (Con.of (by decide +kernel) rfl (Nat.le_of_ble_eq_true rfl) rfl (fun X76 hX76 zX76 => ?_))
  refine tr_aload_n dX12_isTurner_0 rfl ?_
  refine tr_getN dX12_isTurner_1 fl12_385 (hK 183 12 (by decide) kd_183) (hR 183 3 none (by decide +kernel) (by decide +kernel)) ?_
  refine tr_ifnullN 26 dX12_isTurner_4 (by decide) ?_
  refine tr_iconst (v := 0) dX12_isTurner_26 (by decide +kernel) ?_
  refine tr_zret zX76 dX12_isTurner_27 rfl (Or.inl rfl) (by decide) (by decide) ⟨_, rfl, ?_⟩
  refine tr_if_eq 22 dX12_work_10 (by decide) (fun _ => ?_) (fun h => absurd (by decide +kernel) h)
  refine tr_aload_n dX12_work_22 rfl ?_
  refine tr_iconst (v := 1) dX12_work_23 (by decide +kernel) ?_
  refine tr_inVi (M' := mX12_refused) (as := [_]) dX12_work_24 lk12_76 inX12_refused seX12_refused myX12_refused (by decide) ⟨by decide, by decide⟩ rfl (hK 183 12 (by decide) kd_183) (Nat.le_of_ble_eq_true rfl) (by decide) (by decide) (Con.of (by decide +kernel) rfl (Nat.le_of_ble_eq_true rfl) rfl (fun X77 hX77 zX77 => ?_))
  refine tr_aload_n dX12_refused_0 rfl ?_
  refine tr_iload_n dX12_refused_1 rfl ?_
  refine tr_putI dX12_refused_2 fl12_73 (hK 183 12 (by decide) kd_183) (Or.inl rfl) ?_
  refine tr_aload_n dX12_refused_5 rfl ?_
  refine tr_iconst (v := (-1)) dX12_refused_6 (by decide +kernel) ?_
  refine tr_putI dX12_refused_7 fl12_9 (hK 183 12 (by decide) kd_183) (Or.inl rfl) ?_
  refine tr_iconst (v := (-1)) dX12_refused_10 (by decide +kernel) ?_
  refine tr_iret zX77 dX12_refused_11 rfl (by decide) (by decide) ⟨_, rfl, ?_⟩
  exact tr_iret zX75 dX12_work_27 rfl (by decide) (by decide) rfl
set_option maxHeartbeats 4000000 in
set_option maxRecDepth 100000 in
theorem fX10_worth (a : Int32) {l : Launch} {K N : Nat → Nat} {I : cz_I} {R : cz_R} {L : cz_L} (hf : cz_f1 K N I R) : Con l mX10_worth [.ref 0, .int a] 203 K N I R L (fun r cn' K' N' I' R' _ => r = some (.int ((-100000))) ∧ cn' = 203 ∧ K' = K ∧ N' = N ∧ ∀ k : Nat, 183 ≤ k → I' k = I k ∧ R' k = R k) := by
  obtain ⟨hK, hN, hR, hI⟩ := hf
  refine Con.of (by decide +kernel) rfl (Nat.le_of_ble_eq_true rfl) rfl (fun X78 hX78 zX78 => ?_)
  refine tr_aload_n dX10_worth_0 rfl ?_
  refine tr_iload_n dX10_worth_1 rfl ?_
  refine tr_inVi (M' := mX10_isTurner) (as := [_]) dX10_worth_2 lk10_152 inX10_isTurner seX10_isTurner myX10_isTurner (by decide) ⟨by decide, by decide⟩ rfl (hK 0 10 (by decide) kd_0) (Nat.le_of_ble_eq_true rfl) (by decide) (by decide) (Con.of (by decide +kernel) rfl (Nat.le_of_ble_eq_true rfl) rfl (fun X79 hX79 zX79 => ?_))
  refine tr_iload_n dX10_isTurner_0 rfl ?_
  refine tr_if_lt 19 dX10_isTurner_1 (by decide) (fun q80 => ?_) (fun q80 => ?_)
  · skip
    refine tr_iconst (v := 0) dX10_isTurner_19 (by decide +kernel) ?_
    refine tr_zret zX79 dX10_isTurner_20 rfl (Or.inl rfl) (by decide) (by decide) ⟨_, rfl, ?_⟩
    refine tr_if_ne 14 dX10_worth_5 (by decide) (fun h => absurd (by decide +kernel) h) (fun _ => ?_)
    refine tr_aload_n dX10_worth_8 rfl ?_
    refine tr_iconst (v := 1) dX10_worth_9 (by decide +kernel) ?_
    refine tr_inVi (M' := mX10_refusedTotal) (as := [_]) dX10_worth_10 lk10_178 inX10_refusedTotal seX10_refusedTotal myX10_refusedTotal (by decide) ⟨by decide, by decide⟩ rfl (hK 0 10 (by decide) kd_0) (Nat.le_of_ble_eq_true rfl) (by decide) (by decide) (Con.of (by decide +kernel) rfl (Nat.le_of_ble_eq_true rfl) rfl (fun X81 hX81 zX81 => ?_))
    refine tr_aload_n dX10_refusedTotal_0 rfl ?_
    refine tr_iload_n dX10_refusedTotal_1 rfl ?_
    refine tr_putI dX10_refusedTotal_2 fl10_112 (hK 0 10 (by decide) kd_0) (Or.inl rfl) ?_
    refine tr_ldcw dX10_refusedTotal_5 ld10_356 ?_
    refine tr_iret zX81 dX10_refusedTotal_8 rfl (by decide) (by decide) ⟨_, rfl, ?_⟩
    exact tr_iret zX78 dX10_worth_13 rfl (by decide) (by decide) ⟨rfl, rfl, rfl, rfl, fun k hk => ⟨by first | rfl | (repeat rw [cz_uIn (by omega)]), by first | rfl | (repeat rw [cz_uRn (by omega)])⟩⟩
  · skip
    refine tr_iload_n dX10_isTurner_4 rfl ?_
    refine tr_aload_n dX10_isTurner_5 rfl ?_
    refine tr_getR (x := 2) dX10_isTurner_6 fl10_16 (hK 0 10 (by decide) kd_0) (hR 0 2 (some 2) (by decide +kernel) rf_0_2) ?_
    refine tr_getI dX10_isTurner_9 fl10_335 (hK 2 0 (by decide) kd_2) ?_
    refine tr_topi 0 (hI 2 9 (by decide +kernel)) ?_
    refine tr_icmp_ge 19 dX10_isTurner_12 (by decide) (fun q82 => ?_) (fun q82 => ?_)
    · skip
      refine tr_iconst (v := 0) dX10_isTurner_19 (by decide +kernel) ?_
      refine tr_zret zX79 dX10_isTurner_20 rfl (Or.inl rfl) (by decide) (by decide) ⟨_, rfl, ?_⟩
      refine tr_if_ne 14 dX10_worth_5 (by decide) (fun h => absurd (by decide +kernel) h) (fun _ => ?_)
      refine tr_aload_n dX10_worth_8 rfl ?_
      refine tr_iconst (v := 1) dX10_worth_9 (by decide +kernel) ?_
      refine tr_inVi (M' := mX10_refusedTotal) (as := [_]) dX10_worth_10 lk10_178 inX10_refusedTotal seX10_refusedTotal myX10_refusedTotal (by decide) ⟨by decide, by decide⟩ rfl (hK 0 10 (by decide) kd_0) (Nat.le_of_ble_eq_true rfl) (by decide) (by decide) (Con.of (by decide +kernel) rfl (Nat.le_of_ble_eq_true rfl) rfl (fun X83 hX83 zX83 => ?_))
      refine tr_aload_n dX10_refusedTotal_0 rfl ?_
      refine tr_iload_n dX10_refusedTotal_1 rfl ?_
      refine tr_putI dX10_refusedTotal_2 fl10_112 (hK 0 10 (by decide) kd_0) (Or.inl rfl) ?_
      refine tr_ldcw dX10_refusedTotal_5 ld10_356 ?_
      refine tr_iret zX83 dX10_refusedTotal_8 rfl (by decide) (by decide) ⟨_, rfl, ?_⟩
      exact tr_iret zX78 dX10_worth_13 rfl (by decide) (by decide) ⟨rfl, rfl, rfl, rfl, fun k hk => ⟨by first | rfl | (repeat rw [cz_uIn (by omega)]), by first | rfl | (repeat rw [cz_uRn (by omega)])⟩⟩
    · skip
      exfalso
      have e0 : ((0 : Int32)).toInt = 0 := by decide +kernel
      simp only [Int32.lt_iff_toInt_lt, Int32.le_iff_toInt_le, ← Int32.toInt_inj] at q82
      simp only [Int32.lt_iff_toInt_lt, Int32.le_iff_toInt_le, ← Int32.toInt_inj] at q80
      omega
set_option maxHeartbeats 4000000 in
set_option maxRecDepth 100000 in
theorem fX12_worth (a : Int32) {l : Launch} {K N : Nat → Nat} {I : cz_I} {R : cz_R} {L : cz_L} (hf : cz_f2 K N I R) : Con l mX12_worth [.ref 183, .int a] 203 K N I R L (fun r _ _ _ _ _ _ => r = some (.int ((-100000)))) := by
  obtain ⟨hK, hN, hR, hI, hI2⟩ := hf
  refine Con.of (by decide +kernel) rfl (Nat.le_of_ble_eq_true rfl) rfl (fun X84 hX84 zX84 => ?_)
  refine tr_aload_n dX12_worth_0 rfl ?_
  refine tr_iconst (v := 0) dX12_worth_1 (by decide +kernel) ?_
  refine tr_putI dX12_worth_2 fl12_70 (hK 183 12 (by decide) kd_183) (Or.inl rfl) ?_
  refine tr_aload_n dX12_worth_5 rfl ?_
  refine tr_iload_n dX12_worth_6 rfl ?_
  refine tr_inVi (M' := mX12_isTurner) (as := [_]) dX12_worth_7 lk12_452 inX12_isTurner seX12_isTurner myX12_isTurner (by decide) ⟨by decide, by decide⟩ rfl (hK 183 12 (by decide) kd_183) (Nat.le_of_ble_eq_true rfl) (by decide) (by decide) (Con.of (by decide +kernel) rfl (Nat.le_of_ble_eq_true rfl) rfl (fun X85 hX85 zX85 => ?_))
  refine tr_aload_n dX12_isTurner_0 rfl ?_
  refine tr_getN dX12_isTurner_1 fl12_385 (hK 183 12 (by decide) kd_183) (hR 183 3 none (by decide +kernel) (by decide +kernel)) ?_
  refine tr_ifnullN 26 dX12_isTurner_4 (by decide) ?_
  refine tr_iconst (v := 0) dX12_isTurner_26 (by decide +kernel) ?_
  refine tr_zret zX85 dX12_isTurner_27 rfl (Or.inl rfl) (by decide) (by decide) ⟨_, rfl, ?_⟩
  refine tr_if_ne 19 dX12_worth_10 (by decide) (fun h => absurd (by decide +kernel) h) (fun _ => ?_)
  refine tr_aload_n dX12_worth_13 rfl ?_
  refine tr_iconst (v := 1) dX12_worth_14 (by decide +kernel) ?_
  refine tr_inVi (M' := mX12_lost) (as := [_]) dX12_worth_15 lk12_458 inX12_lost seX12_lost myX12_lost (by decide) ⟨by decide, by decide⟩ rfl (hK 183 12 (by decide) kd_183) (Nat.le_of_ble_eq_true rfl) (by decide) (by decide) (Con.of (by decide +kernel) rfl (Nat.le_of_ble_eq_true rfl) rfl (fun X86 hX86 zX86 => ?_))
  refine tr_aload_n dX12_lost_0 rfl ?_
  refine tr_iload_n dX12_lost_1 rfl ?_
  refine tr_inVi (M' := mX12_refused) (as := [_]) dX12_lost_2 lk12_76 inX12_refused seX12_refused myX12_refused (by decide) ⟨by decide, by decide⟩ rfl (hK 183 12 (by decide) kd_183) (Nat.le_of_ble_eq_true rfl) (by decide) (by decide) (Con.of (by decide +kernel) rfl (Nat.le_of_ble_eq_true rfl) rfl (fun X87 hX87 zX87 => ?_))
  refine tr_aload_n dX12_refused_0 rfl ?_
  refine tr_iload_n dX12_refused_1 rfl ?_
  refine tr_putI dX12_refused_2 fl12_73 (hK 183 12 (by decide) kd_183) (Or.inl rfl) ?_
  refine tr_aload_n dX12_refused_5 rfl ?_
  refine tr_iconst (v := (-1)) dX12_refused_6 (by decide +kernel) ?_
  refine tr_putI dX12_refused_7 fl12_9 (hK 183 12 (by decide) kd_183) (Or.inl rfl) ?_
  refine tr_iconst (v := (-1)) dX12_refused_10 (by decide +kernel) ?_
  refine tr_iret zX87 dX12_refused_11 rfl (by decide) (by decide) ⟨_, rfl, ?_⟩
  refine tr_pop dX12_lost_5 rfl ?_
  refine tr_ldc dX12_lost_6 ld12_80 ?_
  refine tr_iret zX86 dX12_lost_8 rfl (by decide) (by decide) ⟨_, rfl, ?_⟩
  exact tr_iret zX84 dX12_worth_18 rfl (by decide) (by decide) rfl
set_option maxHeartbeats 4000000 in
set_option maxRecDepth 100000 in
theorem fX10_turned (a b : Int32) {l : Launch} {K N : Nat → Nat} {I : cz_I} {R : cz_R} {L : cz_L} (hf : cz_f1 K N I R) : Con l mX10_turned [.ref 0, .int a, .int b] 203 K N I R L (fun r cn' K' N' I' R' _ => r = some (.int ((-1))) ∧ cn' = 203 ∧ K' = K ∧ N' = N ∧ ∀ k : Nat, 183 ≤ k → I' k = I k ∧ R' k = R k) := by
  obtain ⟨hK, hN, hR, hI⟩ := hf
  refine Con.of (by decide +kernel) rfl (Nat.le_of_ble_eq_true rfl) rfl (fun X88 hX88 zX88 => ?_)
  refine tr_aload_n dX10_turned_0 rfl ?_
  refine tr_iload_n dX10_turned_1 rfl ?_
  refine tr_inVi (M' := mX10_isCheese) (as := [_]) dX10_turned_2 lk10_195 inX10_isCheese seX10_isCheese myX10_isCheese (by decide) ⟨by decide, by decide⟩ rfl (hK 0 10 (by decide) kd_0) (Nat.le_of_ble_eq_true rfl) (by decide) (by decide) (Con.of (by decide +kernel) rfl (Nat.le_of_ble_eq_true rfl) rfl (fun X89 hX89 zX89 => ?_))
  refine tr_iload_n dX10_isCheese_0 rfl ?_
  refine tr_if_lt 19 dX10_isCheese_1 (by decide) (fun q90 => ?_) (fun q90 => ?_)
  · skip
    refine tr_iconst (v := 0) dX10_isCheese_19 (by decide +kernel) ?_
    refine tr_zret zX89 dX10_isCheese_20 rfl (Or.inl rfl) (by decide) (by decide) ⟨_, rfl, ?_⟩
    refine tr_if_ne 14 dX10_turned_5 (by decide) (fun h => absurd (by decide +kernel) h) (fun _ => ?_)
    refine tr_aload_n dX10_turned_8 rfl ?_
    refine tr_iconst (v := 1) dX10_turned_9 (by decide +kernel) ?_
    refine tr_inVi (M' := mX10_refused) (as := [_]) dX10_turned_10 lk10_79 inX10_refused seX10_refused myX10_refused (by decide) ⟨by decide, by decide⟩ rfl (hK 0 10 (by decide) kd_0) (Nat.le_of_ble_eq_true rfl) (by decide) (by decide) (Con.of (by decide +kernel) rfl (Nat.le_of_ble_eq_true rfl) rfl (fun X91 hX91 zX91 => ?_))
    refine tr_aload_n dX10_refused_0 rfl ?_
    refine tr_iload_n dX10_refused_1 rfl ?_
    refine tr_putI dX10_refused_2 fl10_112 (hK 0 10 (by decide) kd_0) (Or.inl rfl) ?_
    refine tr_iconst (v := (-1)) dX10_refused_5 (by decide +kernel) ?_
    refine tr_iret zX91 dX10_refused_6 rfl (by decide) (by decide) ⟨_, rfl, ?_⟩
    exact tr_iret zX88 dX10_turned_13 rfl (by decide) (by decide) ⟨rfl, rfl, rfl, rfl, fun k hk => ⟨by first | rfl | (repeat rw [cz_uIn (by omega)]), by first | rfl | (repeat rw [cz_uRn (by omega)])⟩⟩
  · skip
    refine tr_iload_n dX10_isCheese_4 rfl ?_
    refine tr_aload_n dX10_isCheese_5 rfl ?_
    refine tr_getR (x := 2) dX10_isCheese_6 fl10_16 (hK 0 10 (by decide) kd_0) (hR 0 2 (some 2) (by decide +kernel) rf_0_2) ?_
    refine tr_getI dX10_isCheese_9 fl10_106 (hK 2 0 (by decide) kd_2) ?_
    refine tr_topi 0 (hI 2 5 (by decide +kernel)) ?_
    refine tr_icmp_ge 19 dX10_isCheese_12 (by decide) (fun q92 => ?_) (fun q92 => ?_)
    · skip
      refine tr_iconst (v := 0) dX10_isCheese_19 (by decide +kernel) ?_
      refine tr_zret zX89 dX10_isCheese_20 rfl (Or.inl rfl) (by decide) (by decide) ⟨_, rfl, ?_⟩
      refine tr_if_ne 14 dX10_turned_5 (by decide) (fun h => absurd (by decide +kernel) h) (fun _ => ?_)
      refine tr_aload_n dX10_turned_8 rfl ?_
      refine tr_iconst (v := 1) dX10_turned_9 (by decide +kernel) ?_
      refine tr_inVi (M' := mX10_refused) (as := [_]) dX10_turned_10 lk10_79 inX10_refused seX10_refused myX10_refused (by decide) ⟨by decide, by decide⟩ rfl (hK 0 10 (by decide) kd_0) (Nat.le_of_ble_eq_true rfl) (by decide) (by decide) (Con.of (by decide +kernel) rfl (Nat.le_of_ble_eq_true rfl) rfl (fun X93 hX93 zX93 => ?_))
      refine tr_aload_n dX10_refused_0 rfl ?_
      refine tr_iload_n dX10_refused_1 rfl ?_
      refine tr_putI dX10_refused_2 fl10_112 (hK 0 10 (by decide) kd_0) (Or.inl rfl) ?_
      refine tr_iconst (v := (-1)) dX10_refused_5 (by decide +kernel) ?_
      refine tr_iret zX93 dX10_refused_6 rfl (by decide) (by decide) ⟨_, rfl, ?_⟩
      exact tr_iret zX88 dX10_turned_13 rfl (by decide) (by decide) ⟨rfl, rfl, rfl, rfl, fun k hk => ⟨by first | rfl | (repeat rw [cz_uIn (by omega)]), by first | rfl | (repeat rw [cz_uRn (by omega)])⟩⟩
    · skip
      exfalso
      have e0 : ((0 : Int32)).toInt = 0 := by decide +kernel
      simp only [Int32.lt_iff_toInt_lt, Int32.le_iff_toInt_le, ← Int32.toInt_inj] at q92
      simp only [Int32.lt_iff_toInt_lt, Int32.le_iff_toInt_le, ← Int32.toInt_inj] at q90
      omega
set_option maxHeartbeats 4000000 in
set_option maxRecDepth 100000 in
theorem fX12_turned (a b : Int32) {l : Launch} {K N : Nat → Nat} {I : cz_I} {R : cz_R} {L : cz_L} (hf : cz_f2 K N I R) : Con l mX12_turned [.ref 183, .int a, .int b] 203 K N I R L (fun r _ _ _ _ _ _ => r = some (.int ((-1)))) := by
  obtain ⟨hK, hN, hR, hI, hI2⟩ := hf
  refine Con.of (by decide +kernel) rfl (Nat.le_of_ble_eq_true rfl) rfl (fun X94 hX94 zX94 => ?_)
  refine tr_aload_n dX12_turned_0 rfl ?_
  refine tr_iconst (v := 0) dX12_turned_1 (by decide +kernel) ?_
  refine tr_putI dX12_turned_2 fl12_70 (hK 183 12 (by decide) kd_183) (Or.inl rfl) ?_
  refine tr_aload_n dX12_turned_5 rfl ?_
  refine tr_iload_n dX12_turned_6 rfl ?_
  refine tr_inVi (M' := mX12_isCheese) (as := [_]) dX12_turned_7 lk12_461 inX12_isCheese seX12_isCheese myX12_isCheese (by decide) ⟨by decide, by decide⟩ rfl (hK 183 12 (by decide) kd_183) (Nat.le_of_ble_eq_true rfl) (by decide) (by decide) (Con.of (by decide +kernel) rfl (Nat.le_of_ble_eq_true rfl) rfl (fun X95 hX95 zX95 => ?_))
  refine tr_aload_n dX12_isCheese_0 rfl ?_
  refine tr_getN dX12_isCheese_1 fl12_385 (hK 183 12 (by decide) kd_183) (hR 183 3 none (by decide +kernel) (by decide +kernel)) ?_
  refine tr_ifnullN 26 dX12_isCheese_4 (by decide) ?_
  refine tr_iconst (v := 0) dX12_isCheese_26 (by decide +kernel) ?_
  refine tr_zret zX95 dX12_isCheese_27 rfl (Or.inl rfl) (by decide) (by decide) ⟨_, rfl, ?_⟩
  refine tr_if_ne 19 dX12_turned_10 (by decide) (fun h => absurd (by decide +kernel) h) (fun _ => ?_)
  refine tr_aload_n dX12_turned_13 rfl ?_
  refine tr_iconst (v := 1) dX12_turned_14 (by decide +kernel) ?_
  refine tr_inVi (M' := mX12_refused) (as := [_]) dX12_turned_15 lk12_76 inX12_refused seX12_refused myX12_refused (by decide) ⟨by decide, by decide⟩ rfl (hK 183 12 (by decide) kd_183) (Nat.le_of_ble_eq_true rfl) (by decide) (by decide) (Con.of (by decide +kernel) rfl (Nat.le_of_ble_eq_true rfl) rfl (fun X96 hX96 zX96 => ?_))
  refine tr_aload_n dX12_refused_0 rfl ?_
  refine tr_iload_n dX12_refused_1 rfl ?_
  refine tr_putI dX12_refused_2 fl12_73 (hK 183 12 (by decide) kd_183) (Or.inl rfl) ?_
  refine tr_aload_n dX12_refused_5 rfl ?_
  refine tr_iconst (v := (-1)) dX12_refused_6 (by decide +kernel) ?_
  refine tr_putI dX12_refused_7 fl12_9 (hK 183 12 (by decide) kd_183) (Or.inl rfl) ?_
  refine tr_iconst (v := (-1)) dX12_refused_10 (by decide +kernel) ?_
  refine tr_iret zX96 dX12_refused_11 rfl (by decide) (by decide) ⟨_, rfl, ?_⟩
  exact tr_iret zX94 dX12_turned_18 rfl (by decide) (by decide) rfl
set_option maxHeartbeats 4000000 in
set_option maxRecDepth 100000 in
theorem fX10_up (a b : Int32) {l : Launch} {K N : Nat → Nat} {I : cz_I} {R : cz_R} {L : cz_L} (hf : cz_f1 K N I R) : Con l mX10_up [.ref 0, .int a, .int b] 203 K N I R L (fun r cn' K' N' I' R' _ => r = some (.int ((-1))) ∧ cn' = 203 ∧ K' = K ∧ N' = N ∧ ∀ k : Nat, 183 ≤ k → I' k = I k ∧ R' k = R k) := by
  obtain ⟨hK, hN, hR, hI⟩ := hf
  refine Con.of (by decide +kernel) rfl (Nat.le_of_ble_eq_true rfl) rfl (fun X97 hX97 zX97 => ?_)
  refine tr_aload_n dX10_up_0 rfl ?_
  refine tr_iload_n dX10_up_1 rfl ?_
  refine tr_inVi (M' := mX10_isCheese) (as := [_]) dX10_up_2 lk10_195 inX10_isCheese seX10_isCheese myX10_isCheese (by decide) ⟨by decide, by decide⟩ rfl (hK 0 10 (by decide) kd_0) (Nat.le_of_ble_eq_true rfl) (by decide) (by decide) (Con.of (by decide +kernel) rfl (Nat.le_of_ble_eq_true rfl) rfl (fun X98 hX98 zX98 => ?_))
  refine tr_iload_n dX10_isCheese_0 rfl ?_
  refine tr_if_lt 19 dX10_isCheese_1 (by decide) (fun q99 => ?_) (fun q99 => ?_)
  · skip
    refine tr_iconst (v := 0) dX10_isCheese_19 (by decide +kernel) ?_
    refine tr_zret zX98 dX10_isCheese_20 rfl (Or.inl rfl) (by decide) (by decide) ⟨_, rfl, ?_⟩
    refine tr_if_ne 14 dX10_up_5 (by decide) (fun h => absurd (by decide +kernel) h) (fun _ => ?_)
    refine tr_aload_n dX10_up_8 rfl ?_
    refine tr_iconst (v := 1) dX10_up_9 (by decide +kernel) ?_
    refine tr_inVi (M' := mX10_refused) (as := [_]) dX10_up_10 lk10_79 inX10_refused seX10_refused myX10_refused (by decide) ⟨by decide, by decide⟩ rfl (hK 0 10 (by decide) kd_0) (Nat.le_of_ble_eq_true rfl) (by decide) (by decide) (Con.of (by decide +kernel) rfl (Nat.le_of_ble_eq_true rfl) rfl (fun X100 hX100 zX100 => ?_))
    refine tr_aload_n dX10_refused_0 rfl ?_
    refine tr_iload_n dX10_refused_1 rfl ?_
    refine tr_putI dX10_refused_2 fl10_112 (hK 0 10 (by decide) kd_0) (Or.inl rfl) ?_
    refine tr_iconst (v := (-1)) dX10_refused_5 (by decide +kernel) ?_
    refine tr_iret zX100 dX10_refused_6 rfl (by decide) (by decide) ⟨_, rfl, ?_⟩
    exact tr_iret zX97 dX10_up_13 rfl (by decide) (by decide) ⟨rfl, rfl, rfl, rfl, fun k hk => ⟨by first | rfl | (repeat rw [cz_uIn (by omega)]), by first | rfl | (repeat rw [cz_uRn (by omega)])⟩⟩
  · skip
    refine tr_iload_n dX10_isCheese_4 rfl ?_
    refine tr_aload_n dX10_isCheese_5 rfl ?_
    refine tr_getR (x := 2) dX10_isCheese_6 fl10_16 (hK 0 10 (by decide) kd_0) (hR 0 2 (some 2) (by decide +kernel) rf_0_2) ?_
    refine tr_getI dX10_isCheese_9 fl10_106 (hK 2 0 (by decide) kd_2) ?_
    refine tr_topi 0 (hI 2 5 (by decide +kernel)) ?_
    refine tr_icmp_ge 19 dX10_isCheese_12 (by decide) (fun q101 => ?_) (fun q101 => ?_)
    · skip
      refine tr_iconst (v := 0) dX10_isCheese_19 (by decide +kernel) ?_
      refine tr_zret zX98 dX10_isCheese_20 rfl (Or.inl rfl) (by decide) (by decide) ⟨_, rfl, ?_⟩
      refine tr_if_ne 14 dX10_up_5 (by decide) (fun h => absurd (by decide +kernel) h) (fun _ => ?_)
      refine tr_aload_n dX10_up_8 rfl ?_
      refine tr_iconst (v := 1) dX10_up_9 (by decide +kernel) ?_
      refine tr_inVi (M' := mX10_refused) (as := [_]) dX10_up_10 lk10_79 inX10_refused seX10_refused myX10_refused (by decide) ⟨by decide, by decide⟩ rfl (hK 0 10 (by decide) kd_0) (Nat.le_of_ble_eq_true rfl) (by decide) (by decide) (Con.of (by decide +kernel) rfl (Nat.le_of_ble_eq_true rfl) rfl (fun X102 hX102 zX102 => ?_))
      refine tr_aload_n dX10_refused_0 rfl ?_
      refine tr_iload_n dX10_refused_1 rfl ?_
      refine tr_putI dX10_refused_2 fl10_112 (hK 0 10 (by decide) kd_0) (Or.inl rfl) ?_
      refine tr_iconst (v := (-1)) dX10_refused_5 (by decide +kernel) ?_
      refine tr_iret zX102 dX10_refused_6 rfl (by decide) (by decide) ⟨_, rfl, ?_⟩
      exact tr_iret zX97 dX10_up_13 rfl (by decide) (by decide) ⟨rfl, rfl, rfl, rfl, fun k hk => ⟨by first | rfl | (repeat rw [cz_uIn (by omega)]), by first | rfl | (repeat rw [cz_uRn (by omega)])⟩⟩
    · skip
      exfalso
      have e0 : ((0 : Int32)).toInt = 0 := by decide +kernel
      simp only [Int32.lt_iff_toInt_lt, Int32.le_iff_toInt_le, ← Int32.toInt_inj] at q101
      simp only [Int32.lt_iff_toInt_lt, Int32.le_iff_toInt_le, ← Int32.toInt_inj] at q99
      omega
set_option maxHeartbeats 4000000 in
set_option maxRecDepth 100000 in
theorem fX12_up (a b : Int32) {l : Launch} {K N : Nat → Nat} {I : cz_I} {R : cz_R} {L : cz_L} (hf : cz_f2 K N I R) : Con l mX12_up [.ref 183, .int a, .int b] 203 K N I R L (fun r _ _ _ _ _ _ => r = some (.int ((-1)))) := by
  obtain ⟨hK, hN, hR, hI, hI2⟩ := hf
  refine Con.of (by decide +kernel) rfl (Nat.le_of_ble_eq_true rfl) rfl (fun X103 hX103 zX103 => ?_)
  refine tr_aload_n dX12_up_0 rfl ?_
  refine tr_iconst (v := 0) dX12_up_1 (by decide +kernel) ?_
  refine tr_putI dX12_up_2 fl12_70 (hK 183 12 (by decide) kd_183) (Or.inl rfl) ?_
  refine tr_aload_n dX12_up_5 rfl ?_
  refine tr_iload_n dX12_up_6 rfl ?_
  refine tr_inVi (M' := mX12_isCheese) (as := [_]) dX12_up_7 lk12_461 inX12_isCheese seX12_isCheese myX12_isCheese (by decide) ⟨by decide, by decide⟩ rfl (hK 183 12 (by decide) kd_183) (Nat.le_of_ble_eq_true rfl) (by decide) (by decide) (Con.of (by decide +kernel) rfl (Nat.le_of_ble_eq_true rfl) rfl (fun X104 hX104 zX104 => ?_))
  refine tr_aload_n dX12_isCheese_0 rfl ?_
  refine tr_getN dX12_isCheese_1 fl12_385 (hK 183 12 (by decide) kd_183) (hR 183 3 none (by decide +kernel) (by decide +kernel)) ?_
  refine tr_ifnullN 26 dX12_isCheese_4 (by decide) ?_
  refine tr_iconst (v := 0) dX12_isCheese_26 (by decide +kernel) ?_
  refine tr_zret zX104 dX12_isCheese_27 rfl (Or.inl rfl) (by decide) (by decide) ⟨_, rfl, ?_⟩
  refine tr_if_ne 19 dX12_up_10 (by decide) (fun h => absurd (by decide +kernel) h) (fun _ => ?_)
  refine tr_aload_n dX12_up_13 rfl ?_
  refine tr_iconst (v := 1) dX12_up_14 (by decide +kernel) ?_
  refine tr_inVi (M' := mX12_refused) (as := [_]) dX12_up_15 lk12_76 inX12_refused seX12_refused myX12_refused (by decide) ⟨by decide, by decide⟩ rfl (hK 183 12 (by decide) kd_183) (Nat.le_of_ble_eq_true rfl) (by decide) (by decide) (Con.of (by decide +kernel) rfl (Nat.le_of_ble_eq_true rfl) rfl (fun X105 hX105 zX105 => ?_))
  refine tr_aload_n dX12_refused_0 rfl ?_
  refine tr_iload_n dX12_refused_1 rfl ?_
  refine tr_putI dX12_refused_2 fl12_73 (hK 183 12 (by decide) kd_183) (Or.inl rfl) ?_
  refine tr_aload_n dX12_refused_5 rfl ?_
  refine tr_iconst (v := (-1)) dX12_refused_6 (by decide +kernel) ?_
  refine tr_putI dX12_refused_7 fl12_9 (hK 183 12 (by decide) kd_183) (Or.inl rfl) ?_
  refine tr_iconst (v := (-1)) dX12_refused_10 (by decide +kernel) ?_
  refine tr_iret zX105 dX12_refused_11 rfl (by decide) (by decide) ⟨_, rfl, ?_⟩
  exact tr_iret zX103 dX12_up_18 rfl (by decide) (by decide) rfl
set_option maxHeartbeats 4000000 in
set_option maxRecDepth 100000 in
theorem fX10_cheese (a b : Int32) {l : Launch} {K N : Nat → Nat} {I : cz_I} {R : cz_R} {L : cz_L} (hf : cz_f1 K N I R) : Con l mX10_cheese [.ref 0, .int a, .int b] 203 K N I R L (fun r cn' K' N' I' R' _ => r = some (.int ((-1))) ∧ cn' = 203 ∧ K' = K ∧ N' = N ∧ ∀ k : Nat, 183 ≤ k → I' k = I k ∧ R' k = R k) := by
  obtain ⟨hK, hN, hR, hI⟩ := hf
  refine Con.of (by decide +kernel) rfl (Nat.le_of_ble_eq_true rfl) rfl (fun X106 hX106 zX106 => ?_)
  refine tr_aload_n dX10_cheese_0 rfl ?_
  refine tr_iload_n dX10_cheese_1 rfl ?_
  refine tr_inVi (M' := mX10_isCheese) (as := [_]) dX10_cheese_2 lk10_195 inX10_isCheese seX10_isCheese myX10_isCheese (by decide) ⟨by decide, by decide⟩ rfl (hK 0 10 (by decide) kd_0) (Nat.le_of_ble_eq_true rfl) (by decide) (by decide) (Con.of (by decide +kernel) rfl (Nat.le_of_ble_eq_true rfl) rfl (fun X107 hX107 zX107 => ?_))
  refine tr_iload_n dX10_isCheese_0 rfl ?_
  refine tr_if_lt 19 dX10_isCheese_1 (by decide) (fun q108 => ?_) (fun q108 => ?_)
  · skip
    refine tr_iconst (v := 0) dX10_isCheese_19 (by decide +kernel) ?_
    refine tr_zret zX107 dX10_isCheese_20 rfl (Or.inl rfl) (by decide) (by decide) ⟨_, rfl, ?_⟩
    refine tr_if_ne 14 dX10_cheese_5 (by decide) (fun h => absurd (by decide +kernel) h) (fun _ => ?_)
    refine tr_aload_n dX10_cheese_8 rfl ?_
    refine tr_iconst (v := 1) dX10_cheese_9 (by decide +kernel) ?_
    refine tr_inVi (M' := mX10_refused) (as := [_]) dX10_cheese_10 lk10_79 inX10_refused seX10_refused myX10_refused (by decide) ⟨by decide, by decide⟩ rfl (hK 0 10 (by decide) kd_0) (Nat.le_of_ble_eq_true rfl) (by decide) (by decide) (Con.of (by decide +kernel) rfl (Nat.le_of_ble_eq_true rfl) rfl (fun X109 hX109 zX109 => ?_))
    refine tr_aload_n dX10_refused_0 rfl ?_
    refine tr_iload_n dX10_refused_1 rfl ?_
    refine tr_putI dX10_refused_2 fl10_112 (hK 0 10 (by decide) kd_0) (Or.inl rfl) ?_
    refine tr_iconst (v := (-1)) dX10_refused_5 (by decide +kernel) ?_
    refine tr_iret zX109 dX10_refused_6 rfl (by decide) (by decide) ⟨_, rfl, ?_⟩
    exact tr_iret zX106 dX10_cheese_13 rfl (by decide) (by decide) ⟨rfl, rfl, rfl, rfl, fun k hk => ⟨by first | rfl | (repeat rw [cz_uIn (by omega)]), by first | rfl | (repeat rw [cz_uRn (by omega)])⟩⟩
  · skip
    refine tr_iload_n dX10_isCheese_4 rfl ?_
    refine tr_aload_n dX10_isCheese_5 rfl ?_
    refine tr_getR (x := 2) dX10_isCheese_6 fl10_16 (hK 0 10 (by decide) kd_0) (hR 0 2 (some 2) (by decide +kernel) rf_0_2) ?_
    refine tr_getI dX10_isCheese_9 fl10_106 (hK 2 0 (by decide) kd_2) ?_
    refine tr_topi 0 (hI 2 5 (by decide +kernel)) ?_
    refine tr_icmp_ge 19 dX10_isCheese_12 (by decide) (fun q110 => ?_) (fun q110 => ?_)
    · skip
      refine tr_iconst (v := 0) dX10_isCheese_19 (by decide +kernel) ?_
      refine tr_zret zX107 dX10_isCheese_20 rfl (Or.inl rfl) (by decide) (by decide) ⟨_, rfl, ?_⟩
      refine tr_if_ne 14 dX10_cheese_5 (by decide) (fun h => absurd (by decide +kernel) h) (fun _ => ?_)
      refine tr_aload_n dX10_cheese_8 rfl ?_
      refine tr_iconst (v := 1) dX10_cheese_9 (by decide +kernel) ?_
      refine tr_inVi (M' := mX10_refused) (as := [_]) dX10_cheese_10 lk10_79 inX10_refused seX10_refused myX10_refused (by decide) ⟨by decide, by decide⟩ rfl (hK 0 10 (by decide) kd_0) (Nat.le_of_ble_eq_true rfl) (by decide) (by decide) (Con.of (by decide +kernel) rfl (Nat.le_of_ble_eq_true rfl) rfl (fun X111 hX111 zX111 => ?_))
      refine tr_aload_n dX10_refused_0 rfl ?_
      refine tr_iload_n dX10_refused_1 rfl ?_
      refine tr_putI dX10_refused_2 fl10_112 (hK 0 10 (by decide) kd_0) (Or.inl rfl) ?_
      refine tr_iconst (v := (-1)) dX10_refused_5 (by decide +kernel) ?_
      refine tr_iret zX111 dX10_refused_6 rfl (by decide) (by decide) ⟨_, rfl, ?_⟩
      exact tr_iret zX106 dX10_cheese_13 rfl (by decide) (by decide) ⟨rfl, rfl, rfl, rfl, fun k hk => ⟨by first | rfl | (repeat rw [cz_uIn (by omega)]), by first | rfl | (repeat rw [cz_uRn (by omega)])⟩⟩
    · skip
      exfalso
      have e0 : ((0 : Int32)).toInt = 0 := by decide +kernel
      simp only [Int32.lt_iff_toInt_lt, Int32.le_iff_toInt_le, ← Int32.toInt_inj] at q110
      simp only [Int32.lt_iff_toInt_lt, Int32.le_iff_toInt_le, ← Int32.toInt_inj] at q108
      omega
set_option maxHeartbeats 4000000 in
set_option maxRecDepth 100000 in
theorem fX12_cheese (a b : Int32) {l : Launch} {K N : Nat → Nat} {I : cz_I} {R : cz_R} {L : cz_L} (hf : cz_f2 K N I R) : Con l mX12_cheese [.ref 183, .int a, .int b] 203 K N I R L (fun r _ _ _ _ _ _ => r = some (.int ((-1)))) := by
  obtain ⟨hK, hN, hR, hI, hI2⟩ := hf
  refine Con.of (by decide +kernel) rfl (Nat.le_of_ble_eq_true rfl) rfl (fun X112 hX112 zX112 => ?_)
  refine tr_aload_n dX12_cheese_0 rfl ?_
  refine tr_iconst (v := 0) dX12_cheese_1 (by decide +kernel) ?_
  refine tr_putI dX12_cheese_2 fl12_70 (hK 183 12 (by decide) kd_183) (Or.inl rfl) ?_
  refine tr_aload_n dX12_cheese_5 rfl ?_
  refine tr_iload_n dX12_cheese_6 rfl ?_
  refine tr_inVi (M' := mX12_isCheese) (as := [_]) dX12_cheese_7 lk12_461 inX12_isCheese seX12_isCheese myX12_isCheese (by decide) ⟨by decide, by decide⟩ rfl (hK 183 12 (by decide) kd_183) (Nat.le_of_ble_eq_true rfl) (by decide) (by decide) (Con.of (by decide +kernel) rfl (Nat.le_of_ble_eq_true rfl) rfl (fun X113 hX113 zX113 => ?_))
  refine tr_aload_n dX12_isCheese_0 rfl ?_
  refine tr_getN dX12_isCheese_1 fl12_385 (hK 183 12 (by decide) kd_183) (hR 183 3 none (by decide +kernel) (by decide +kernel)) ?_
  refine tr_ifnullN 26 dX12_isCheese_4 (by decide) ?_
  refine tr_iconst (v := 0) dX12_isCheese_26 (by decide +kernel) ?_
  refine tr_zret zX113 dX12_isCheese_27 rfl (Or.inl rfl) (by decide) (by decide) ⟨_, rfl, ?_⟩
  refine tr_if_eq 23 dX12_cheese_10 (by decide) (fun _ => ?_) (fun h => absurd (by decide +kernel) h)
  refine tr_aload_n dX12_cheese_23 rfl ?_
  refine tr_iconst (v := 1) dX12_cheese_24 (by decide +kernel) ?_
  refine tr_inVi (M' := mX12_refused) (as := [_]) dX12_cheese_25 lk12_76 inX12_refused seX12_refused myX12_refused (by decide) ⟨by decide, by decide⟩ rfl (hK 183 12 (by decide) kd_183) (Nat.le_of_ble_eq_true rfl) (by decide) (by decide) (Con.of (by decide +kernel) rfl (Nat.le_of_ble_eq_true rfl) rfl (fun X114 hX114 zX114 => ?_))
  refine tr_aload_n dX12_refused_0 rfl ?_
  refine tr_iload_n dX12_refused_1 rfl ?_
  refine tr_putI dX12_refused_2 fl12_73 (hK 183 12 (by decide) kd_183) (Or.inl rfl) ?_
  refine tr_aload_n dX12_refused_5 rfl ?_
  refine tr_iconst (v := (-1)) dX12_refused_6 (by decide +kernel) ?_
  refine tr_putI dX12_refused_7 fl12_9 (hK 183 12 (by decide) kd_183) (Or.inl rfl) ?_
  refine tr_iconst (v := (-1)) dX12_refused_10 (by decide +kernel) ?_
  refine tr_iret zX114 dX12_refused_11 rfl (by decide) (by decide) ⟨_, rfl, ?_⟩
  exact tr_iret zX112 dX12_cheese_28 rfl (by decide) (by decide) rfl
set_option maxHeartbeats 4000000 in
set_option maxRecDepth 100000 in
theorem fX10_vein (a b : Int32) {l : Launch} {K N : Nat → Nat} {I : cz_I} {R : cz_R} {L : cz_L} (hf : cz_f1 K N I R) : Con l mX10_vein [.ref 0, .int a, .int b] 203 K N I R L (fun r cn' K' N' I' R' _ => r = some (.int ((-1))) ∧ cn' = 203 ∧ K' = K ∧ N' = N ∧ ∀ k : Nat, 183 ≤ k → I' k = I k ∧ R' k = R k) := by
  obtain ⟨hK, hN, hR, hI⟩ := hf
  refine Con.of (by decide +kernel) rfl (Nat.le_of_ble_eq_true rfl) rfl (fun X115 hX115 zX115 => ?_)
  refine tr_aload_n dX10_vein_0 rfl ?_
  refine tr_iload_n dX10_vein_1 rfl ?_
  refine tr_iload_n dX10_vein_2 rfl ?_
  refine tr_inVi (M' := mX10_veinMinute) (as := [_, _]) dX10_vein_3 lk10_222 inX10_veinMinute seX10_veinMinute myX10_veinMinute (by decide) ⟨by decide, by decide⟩ rfl (hK 0 10 (by decide) kd_0) (Nat.le_of_ble_eq_true rfl) (by decide) (by decide) (Con.of (by decide +kernel) rfl (Nat.le_of_ble_eq_true rfl) rfl (fun X116 hX116 zX116 => ?_))
  refine tr_aload_n dX10_veinMinute_0 rfl ?_
  refine tr_iload_n dX10_veinMinute_1 rfl ?_
  refine tr_inVi (M' := mX10_isCheese) (as := [_]) dX10_veinMinute_2 lk10_195 inX10_isCheese seX10_isCheese myX10_isCheese (by decide) ⟨by decide, by decide⟩ rfl (hK 0 10 (by decide) kd_0) (Nat.le_of_ble_eq_true rfl) (by decide) (by decide) (Con.of (by decide +kernel) rfl (Nat.le_of_ble_eq_true rfl) rfl (fun X117 hX117 zX117 => ?_))
  refine tr_iload_n dX10_isCheese_0 rfl ?_
  refine tr_if_lt 19 dX10_isCheese_1 (by decide) (fun q118 => ?_) (fun q118 => ?_)
  · skip
    refine tr_iconst (v := 0) dX10_isCheese_19 (by decide +kernel) ?_
    refine tr_zret zX117 dX10_isCheese_20 rfl (Or.inl rfl) (by decide) (by decide) ⟨_, rfl, ?_⟩
    refine tr_if_eq 20 dX10_veinMinute_5 (by decide) (fun _ => ?_) (fun h => absurd (by decide +kernel) h)
    refine tr_iconst (v := (-1)) dX10_veinMinute_20 (by decide +kernel) ?_
    refine tr_iret zX116 dX10_veinMinute_21 rfl (by decide) (by decide) ⟨_, rfl, ?_⟩
    refine tr_istore_n dX10_vein_6 (by decide) (by decide) ?_
    refine tr_iload_n dX10_vein_7 rfl ?_
    refine tr_iconst (v := (-1)) dX10_vein_8 (by decide +kernel) ?_
    refine tr_icmp_ne 20 dX10_vein_9 (by decide) (fun h => absurd (by decide +kernel) h) (fun _ => ?_)
    refine tr_aload_n dX10_vein_12 rfl ?_
    refine tr_iconst (v := 1) dX10_vein_13 (by decide +kernel) ?_
    refine tr_inVi (M' := mX10_refused) (as := [_]) dX10_vein_14 lk10_79 inX10_refused seX10_refused myX10_refused (by decide) ⟨by decide, by decide⟩ rfl (hK 0 10 (by decide) kd_0) (Nat.le_of_ble_eq_true rfl) (by decide) (by decide) (Con.of (by decide +kernel) rfl (Nat.le_of_ble_eq_true rfl) rfl (fun X119 hX119 zX119 => ?_))
    refine tr_aload_n dX10_refused_0 rfl ?_
    refine tr_iload_n dX10_refused_1 rfl ?_
    refine tr_putI dX10_refused_2 fl10_112 (hK 0 10 (by decide) kd_0) (Or.inl rfl) ?_
    refine tr_iconst (v := (-1)) dX10_refused_5 (by decide +kernel) ?_
    refine tr_iret zX119 dX10_refused_6 rfl (by decide) (by decide) ⟨_, rfl, ?_⟩
    refine tr_goto 25 dX10_vein_17 (by decide) ?_
    exact tr_iret zX115 dX10_vein_25 rfl (by decide) (by decide) ⟨rfl, rfl, rfl, rfl, fun k hk => ⟨by first | rfl | (repeat rw [cz_uIn (by omega)]), by first | rfl | (repeat rw [cz_uRn (by omega)])⟩⟩
  · skip
    refine tr_iload_n dX10_isCheese_4 rfl ?_
    refine tr_aload_n dX10_isCheese_5 rfl ?_
    refine tr_getR (x := 2) dX10_isCheese_6 fl10_16 (hK 0 10 (by decide) kd_0) (hR 0 2 (some 2) (by decide +kernel) rf_0_2) ?_
    refine tr_getI dX10_isCheese_9 fl10_106 (hK 2 0 (by decide) kd_2) ?_
    refine tr_topi 0 (hI 2 5 (by decide +kernel)) ?_
    refine tr_icmp_ge 19 dX10_isCheese_12 (by decide) (fun q120 => ?_) (fun q120 => ?_)
    · skip
      refine tr_iconst (v := 0) dX10_isCheese_19 (by decide +kernel) ?_
      refine tr_zret zX117 dX10_isCheese_20 rfl (Or.inl rfl) (by decide) (by decide) ⟨_, rfl, ?_⟩
      refine tr_if_eq 20 dX10_veinMinute_5 (by decide) (fun _ => ?_) (fun h => absurd (by decide +kernel) h)
      refine tr_iconst (v := (-1)) dX10_veinMinute_20 (by decide +kernel) ?_
      refine tr_iret zX116 dX10_veinMinute_21 rfl (by decide) (by decide) ⟨_, rfl, ?_⟩
      refine tr_istore_n dX10_vein_6 (by decide) (by decide) ?_
      refine tr_iload_n dX10_vein_7 rfl ?_
      refine tr_iconst (v := (-1)) dX10_vein_8 (by decide +kernel) ?_
      refine tr_icmp_ne 20 dX10_vein_9 (by decide) (fun h => absurd (by decide +kernel) h) (fun _ => ?_)
      refine tr_aload_n dX10_vein_12 rfl ?_
      refine tr_iconst (v := 1) dX10_vein_13 (by decide +kernel) ?_
      refine tr_inVi (M' := mX10_refused) (as := [_]) dX10_vein_14 lk10_79 inX10_refused seX10_refused myX10_refused (by decide) ⟨by decide, by decide⟩ rfl (hK 0 10 (by decide) kd_0) (Nat.le_of_ble_eq_true rfl) (by decide) (by decide) (Con.of (by decide +kernel) rfl (Nat.le_of_ble_eq_true rfl) rfl (fun X121 hX121 zX121 => ?_))
      refine tr_aload_n dX10_refused_0 rfl ?_
      refine tr_iload_n dX10_refused_1 rfl ?_
      refine tr_putI dX10_refused_2 fl10_112 (hK 0 10 (by decide) kd_0) (Or.inl rfl) ?_
      refine tr_iconst (v := (-1)) dX10_refused_5 (by decide +kernel) ?_
      refine tr_iret zX121 dX10_refused_6 rfl (by decide) (by decide) ⟨_, rfl, ?_⟩
      refine tr_goto 25 dX10_vein_17 (by decide) ?_
      exact tr_iret zX115 dX10_vein_25 rfl (by decide) (by decide) ⟨rfl, rfl, rfl, rfl, fun k hk => ⟨by first | rfl | (repeat rw [cz_uIn (by omega)]), by first | rfl | (repeat rw [cz_uRn (by omega)])⟩⟩
    · skip
      exfalso
      have e0 : ((0 : Int32)).toInt = 0 := by decide +kernel
      simp only [Int32.lt_iff_toInt_lt, Int32.le_iff_toInt_le, ← Int32.toInt_inj] at q120
      simp only [Int32.lt_iff_toInt_lt, Int32.le_iff_toInt_le, ← Int32.toInt_inj] at q118
      omega
set_option maxHeartbeats 4000000 in
set_option maxRecDepth 100000 in
theorem fX12_vein (a b : Int32) {l : Launch} {K N : Nat → Nat} {I : cz_I} {R : cz_R} {L : cz_L} (hf : cz_f2 K N I R) : Con l mX12_vein [.ref 183, .int a, .int b] 203 K N I R L (fun r _ _ _ _ _ _ => r = some (.int ((-1)))) := by
  obtain ⟨hK, hN, hR, hI, hI2⟩ := hf
  refine Con.of (by decide +kernel) rfl (Nat.le_of_ble_eq_true rfl) rfl (fun X122 hX122 zX122 => ?_)
  refine tr_aload_n dX12_vein_0 rfl ?_
  refine tr_iconst (v := 0) dX12_vein_1 (by decide +kernel) ?_
  refine tr_putI dX12_vein_2 fl12_70 (hK 183 12 (by decide) kd_183) (Or.inl rfl) ?_
  refine tr_aload_n dX12_vein_5 rfl ?_
  refine tr_iload_n dX12_vein_6 rfl ?_
  refine tr_inVi (M' := mX12_isCheese) (as := [_]) dX12_vein_7 lk12_461 inX12_isCheese seX12_isCheese myX12_isCheese (by decide) ⟨by decide, by decide⟩ rfl (hK 183 12 (by decide) kd_183) (Nat.le_of_ble_eq_true rfl) (by decide) (by decide) (Con.of (by decide +kernel) rfl (Nat.le_of_ble_eq_true rfl) rfl (fun X123 hX123 zX123 => ?_))
  refine tr_aload_n dX12_isCheese_0 rfl ?_
  refine tr_getN dX12_isCheese_1 fl12_385 (hK 183 12 (by decide) kd_183) (hR 183 3 none (by decide +kernel) (by decide +kernel)) ?_
  refine tr_ifnullN 26 dX12_isCheese_4 (by decide) ?_
  refine tr_iconst (v := 0) dX12_isCheese_26 (by decide +kernel) ?_
  refine tr_zret zX123 dX12_isCheese_27 rfl (Or.inl rfl) (by decide) (by decide) ⟨_, rfl, ?_⟩
  refine tr_if_ne 19 dX12_vein_10 (by decide) (fun h => absurd (by decide +kernel) h) (fun _ => ?_)
  refine tr_aload_n dX12_vein_13 rfl ?_
  refine tr_iconst (v := 1) dX12_vein_14 (by decide +kernel) ?_
  refine tr_inVi (M' := mX12_refused) (as := [_]) dX12_vein_15 lk12_76 inX12_refused seX12_refused myX12_refused (by decide) ⟨by decide, by decide⟩ rfl (hK 183 12 (by decide) kd_183) (Nat.le_of_ble_eq_true rfl) (by decide) (by decide) (Con.of (by decide +kernel) rfl (Nat.le_of_ble_eq_true rfl) rfl (fun X124 hX124 zX124 => ?_))
  refine tr_aload_n dX12_refused_0 rfl ?_
  refine tr_iload_n dX12_refused_1 rfl ?_
  refine tr_putI dX12_refused_2 fl12_73 (hK 183 12 (by decide) kd_183) (Or.inl rfl) ?_
  refine tr_aload_n dX12_refused_5 rfl ?_
  refine tr_iconst (v := (-1)) dX12_refused_6 (by decide +kernel) ?_
  refine tr_putI dX12_refused_7 fl12_9 (hK 183 12 (by decide) kd_183) (Or.inl rfl) ?_
  refine tr_iconst (v := (-1)) dX12_refused_10 (by decide +kernel) ?_
  refine tr_iret zX124 dX12_refused_11 rfl (by decide) (by decide) ⟨_, rfl, ?_⟩
  exact tr_iret zX122 dX12_vein_18 rfl (by decide) (by decide) rfl
set_option maxHeartbeats 4000000 in
set_option maxRecDepth 100000 in
theorem fX10_cause (a b : Int32) {l : Launch} {K N : Nat → Nat} {I : cz_I} {R : cz_R} {L : cz_L} (hf : cz_f1 K N I R) : Con l mX10_cause [.ref 0, .int a, .int b] 203 K N I R L (fun r cn' K' N' I' R' _ => r = some (.int ((-1))) ∧ cn' = 203 ∧ K' = K ∧ N' = N ∧ ∀ k : Nat, 183 ≤ k → I' k = I k ∧ R' k = R k) := by
  obtain ⟨hK, hN, hR, hI⟩ := hf
  refine Con.of (by decide +kernel) rfl (Nat.le_of_ble_eq_true rfl) rfl (fun X125 hX125 zX125 => ?_)
  refine tr_aload_n dX10_cause_0 rfl ?_
  refine tr_iload_n dX10_cause_1 rfl ?_
  refine tr_iload_n dX10_cause_2 rfl ?_
  refine tr_inVi (M' := mX10_veinMinute) (as := [_, _]) dX10_cause_3 lk10_222 inX10_veinMinute seX10_veinMinute myX10_veinMinute (by decide) ⟨by decide, by decide⟩ rfl (hK 0 10 (by decide) kd_0) (Nat.le_of_ble_eq_true rfl) (by decide) (by decide) (Con.of (by decide +kernel) rfl (Nat.le_of_ble_eq_true rfl) rfl (fun X126 hX126 zX126 => ?_))
  refine tr_aload_n dX10_veinMinute_0 rfl ?_
  refine tr_iload_n dX10_veinMinute_1 rfl ?_
  refine tr_inVi (M' := mX10_isCheese) (as := [_]) dX10_veinMinute_2 lk10_195 inX10_isCheese seX10_isCheese myX10_isCheese (by decide) ⟨by decide, by decide⟩ rfl (hK 0 10 (by decide) kd_0) (Nat.le_of_ble_eq_true rfl) (by decide) (by decide) (Con.of (by decide +kernel) rfl (Nat.le_of_ble_eq_true rfl) rfl (fun X127 hX127 zX127 => ?_))
  refine tr_iload_n dX10_isCheese_0 rfl ?_
  refine tr_if_lt 19 dX10_isCheese_1 (by decide) (fun q128 => ?_) (fun q128 => ?_)
  · skip
    refine tr_iconst (v := 0) dX10_isCheese_19 (by decide +kernel) ?_
    refine tr_zret zX127 dX10_isCheese_20 rfl (Or.inl rfl) (by decide) (by decide) ⟨_, rfl, ?_⟩
    refine tr_if_eq 20 dX10_veinMinute_5 (by decide) (fun _ => ?_) (fun h => absurd (by decide +kernel) h)
    refine tr_iconst (v := (-1)) dX10_veinMinute_20 (by decide +kernel) ?_
    refine tr_iret zX126 dX10_veinMinute_21 rfl (by decide) (by decide) ⟨_, rfl, ?_⟩
    refine tr_istore_n dX10_cause_6 (by decide) (by decide) ?_
    refine tr_iload_n dX10_cause_7 rfl ?_
    refine tr_iconst (v := (-1)) dX10_cause_8 (by decide +kernel) ?_
    refine tr_icmp_ne 18 dX10_cause_9 (by decide) (fun h => absurd (by decide +kernel) h) (fun _ => ?_)
    refine tr_aload_n dX10_cause_12 rfl ?_
    refine tr_iconst (v := 1) dX10_cause_13 (by decide +kernel) ?_
    refine tr_inVi (M' := mX10_refused) (as := [_]) dX10_cause_14 lk10_79 inX10_refused seX10_refused myX10_refused (by decide) ⟨by decide, by decide⟩ rfl (hK 0 10 (by decide) kd_0) (Nat.le_of_ble_eq_true rfl) (by decide) (by decide) (Con.of (by decide +kernel) rfl (Nat.le_of_ble_eq_true rfl) rfl (fun X129 hX129 zX129 => ?_))
    refine tr_aload_n dX10_refused_0 rfl ?_
    refine tr_iload_n dX10_refused_1 rfl ?_
    refine tr_putI dX10_refused_2 fl10_112 (hK 0 10 (by decide) kd_0) (Or.inl rfl) ?_
    refine tr_iconst (v := (-1)) dX10_refused_5 (by decide +kernel) ?_
    refine tr_iret zX129 dX10_refused_6 rfl (by decide) (by decide) ⟨_, rfl, ?_⟩
    exact tr_iret zX125 dX10_cause_17 rfl (by decide) (by decide) ⟨rfl, rfl, rfl, rfl, fun k hk => ⟨by first | rfl | (repeat rw [cz_uIn (by omega)]), by first | rfl | (repeat rw [cz_uRn (by omega)])⟩⟩
  · skip
    refine tr_iload_n dX10_isCheese_4 rfl ?_
    refine tr_aload_n dX10_isCheese_5 rfl ?_
    refine tr_getR (x := 2) dX10_isCheese_6 fl10_16 (hK 0 10 (by decide) kd_0) (hR 0 2 (some 2) (by decide +kernel) rf_0_2) ?_
    refine tr_getI dX10_isCheese_9 fl10_106 (hK 2 0 (by decide) kd_2) ?_
    refine tr_topi 0 (hI 2 5 (by decide +kernel)) ?_
    refine tr_icmp_ge 19 dX10_isCheese_12 (by decide) (fun q130 => ?_) (fun q130 => ?_)
    · skip
      refine tr_iconst (v := 0) dX10_isCheese_19 (by decide +kernel) ?_
      refine tr_zret zX127 dX10_isCheese_20 rfl (Or.inl rfl) (by decide) (by decide) ⟨_, rfl, ?_⟩
      refine tr_if_eq 20 dX10_veinMinute_5 (by decide) (fun _ => ?_) (fun h => absurd (by decide +kernel) h)
      refine tr_iconst (v := (-1)) dX10_veinMinute_20 (by decide +kernel) ?_
      refine tr_iret zX126 dX10_veinMinute_21 rfl (by decide) (by decide) ⟨_, rfl, ?_⟩
      refine tr_istore_n dX10_cause_6 (by decide) (by decide) ?_
      refine tr_iload_n dX10_cause_7 rfl ?_
      refine tr_iconst (v := (-1)) dX10_cause_8 (by decide +kernel) ?_
      refine tr_icmp_ne 18 dX10_cause_9 (by decide) (fun h => absurd (by decide +kernel) h) (fun _ => ?_)
      refine tr_aload_n dX10_cause_12 rfl ?_
      refine tr_iconst (v := 1) dX10_cause_13 (by decide +kernel) ?_
      refine tr_inVi (M' := mX10_refused) (as := [_]) dX10_cause_14 lk10_79 inX10_refused seX10_refused myX10_refused (by decide) ⟨by decide, by decide⟩ rfl (hK 0 10 (by decide) kd_0) (Nat.le_of_ble_eq_true rfl) (by decide) (by decide) (Con.of (by decide +kernel) rfl (Nat.le_of_ble_eq_true rfl) rfl (fun X131 hX131 zX131 => ?_))
      refine tr_aload_n dX10_refused_0 rfl ?_
      refine tr_iload_n dX10_refused_1 rfl ?_
      refine tr_putI dX10_refused_2 fl10_112 (hK 0 10 (by decide) kd_0) (Or.inl rfl) ?_
      refine tr_iconst (v := (-1)) dX10_refused_5 (by decide +kernel) ?_
      refine tr_iret zX131 dX10_refused_6 rfl (by decide) (by decide) ⟨_, rfl, ?_⟩
      exact tr_iret zX125 dX10_cause_17 rfl (by decide) (by decide) ⟨rfl, rfl, rfl, rfl, fun k hk => ⟨by first | rfl | (repeat rw [cz_uIn (by omega)]), by first | rfl | (repeat rw [cz_uRn (by omega)])⟩⟩
    · skip
      exfalso
      have e0 : ((0 : Int32)).toInt = 0 := by decide +kernel
      simp only [Int32.lt_iff_toInt_lt, Int32.le_iff_toInt_le, ← Int32.toInt_inj] at q130
      simp only [Int32.lt_iff_toInt_lt, Int32.le_iff_toInt_le, ← Int32.toInt_inj] at q128
      omega
set_option maxHeartbeats 4000000 in
set_option maxRecDepth 100000 in
theorem fX12_cause (a b : Int32) {l : Launch} {K N : Nat → Nat} {I : cz_I} {R : cz_R} {L : cz_L} (hf : cz_f2 K N I R) : Con l mX12_cause [.ref 183, .int a, .int b] 203 K N I R L (fun r _ _ _ _ _ _ => r = some (.int ((-1)))) := by
  obtain ⟨hK, hN, hR, hI, hI2⟩ := hf
  refine Con.of (by decide +kernel) rfl (Nat.le_of_ble_eq_true rfl) rfl (fun X132 hX132 zX132 => ?_)
  refine tr_aload_n dX12_cause_0 rfl ?_
  refine tr_iconst (v := 0) dX12_cause_1 (by decide +kernel) ?_
  refine tr_putI dX12_cause_2 fl12_70 (hK 183 12 (by decide) kd_183) (Or.inl rfl) ?_
  refine tr_aload_n dX12_cause_5 rfl ?_
  refine tr_iload_n dX12_cause_6 rfl ?_
  refine tr_inVi (M' := mX12_isCheese) (as := [_]) dX12_cause_7 lk12_461 inX12_isCheese seX12_isCheese myX12_isCheese (by decide) ⟨by decide, by decide⟩ rfl (hK 183 12 (by decide) kd_183) (Nat.le_of_ble_eq_true rfl) (by decide) (by decide) (Con.of (by decide +kernel) rfl (Nat.le_of_ble_eq_true rfl) rfl (fun X133 hX133 zX133 => ?_))
  refine tr_aload_n dX12_isCheese_0 rfl ?_
  refine tr_getN dX12_isCheese_1 fl12_385 (hK 183 12 (by decide) kd_183) (hR 183 3 none (by decide +kernel) (by decide +kernel)) ?_
  refine tr_ifnullN 26 dX12_isCheese_4 (by decide) ?_
  refine tr_iconst (v := 0) dX12_isCheese_26 (by decide +kernel) ?_
  refine tr_zret zX133 dX12_isCheese_27 rfl (Or.inl rfl) (by decide) (by decide) ⟨_, rfl, ?_⟩
  refine tr_if_ne 19 dX12_cause_10 (by decide) (fun h => absurd (by decide +kernel) h) (fun _ => ?_)
  refine tr_aload_n dX12_cause_13 rfl ?_
  refine tr_iconst (v := 1) dX12_cause_14 (by decide +kernel) ?_
  refine tr_inVi (M' := mX12_refused) (as := [_]) dX12_cause_15 lk12_76 inX12_refused seX12_refused myX12_refused (by decide) ⟨by decide, by decide⟩ rfl (hK 183 12 (by decide) kd_183) (Nat.le_of_ble_eq_true rfl) (by decide) (by decide) (Con.of (by decide +kernel) rfl (Nat.le_of_ble_eq_true rfl) rfl (fun X134 hX134 zX134 => ?_))
  refine tr_aload_n dX12_refused_0 rfl ?_
  refine tr_iload_n dX12_refused_1 rfl ?_
  refine tr_putI dX12_refused_2 fl12_73 (hK 183 12 (by decide) kd_183) (Or.inl rfl) ?_
  refine tr_aload_n dX12_refused_5 rfl ?_
  refine tr_iconst (v := (-1)) dX12_refused_6 (by decide +kernel) ?_
  refine tr_putI dX12_refused_7 fl12_9 (hK 183 12 (by decide) kd_183) (Or.inl rfl) ?_
  refine tr_iconst (v := (-1)) dX12_refused_10 (by decide +kernel) ?_
  refine tr_iret zX134 dX12_refused_11 rfl (by decide) (by decide) ⟨_, rfl, ?_⟩
  exact tr_iret zX132 dX12_cause_18 rfl (by decide) (by decide) rfl
set_option maxHeartbeats 4000000 in
set_option maxRecDepth 100000 in
theorem fX10_total {l : Launch} {K N : Nat → Nat} {I : cz_I} {R : cz_R} {L : cz_L} (hf : cz_f1 K N I R) : Con l mX10_total [.ref 0] 203 K N I R L (fun r cn' K' N' I' R' _ => r = some (.int ((-100000))) ∧ cn' = 203 ∧ K' = K ∧ N' = N ∧ ∀ k : Nat, 183 ≤ k → I' k = I k ∧ R' k = R k) := by
  obtain ⟨hK, hN, hR, hI⟩ := hf
  refine Con.of (by decide +kernel) rfl (Nat.le_of_ble_eq_true rfl) rfl (fun X135 hX135 zX135 => ?_)
  refine tr_aload_n dX10_total_0 rfl ?_
  refine tr_getZ dX10_total_1 fl10_95 (hK 0 10 (by decide) kd_0) ?_
  refine tr_topi 0 (hI 0 5 (by decide +kernel)) ?_
  refine tr_if_eq 21 dX10_total_4 (by decide) (fun _ => ?_) (fun h => absurd (by decide +kernel) h)
  refine tr_aload_n dX10_total_21 rfl ?_
  refine tr_iconst (v := 1) dX10_total_22 (by decide +kernel) ?_
  refine tr_inVi (M' := mX10_refusedTotal) (as := [_]) dX10_total_23 lk10_178 inX10_refusedTotal seX10_refusedTotal myX10_refusedTotal (by decide) ⟨by decide, by decide⟩ rfl (hK 0 10 (by decide) kd_0) (Nat.le_of_ble_eq_true rfl) (by decide) (by decide) (Con.of (by decide +kernel) rfl (Nat.le_of_ble_eq_true rfl) rfl (fun X136 hX136 zX136 => ?_))
  refine tr_aload_n dX10_refusedTotal_0 rfl ?_
  refine tr_iload_n dX10_refusedTotal_1 rfl ?_
  refine tr_putI dX10_refusedTotal_2 fl10_112 (hK 0 10 (by decide) kd_0) (Or.inl rfl) ?_
  refine tr_ldcw dX10_refusedTotal_5 ld10_356 ?_
  refine tr_iret zX136 dX10_refusedTotal_8 rfl (by decide) (by decide) ⟨_, rfl, ?_⟩
  exact tr_iret zX135 dX10_total_26 rfl (by decide) (by decide) ⟨rfl, rfl, rfl, rfl, fun k hk => ⟨by first | rfl | (repeat rw [cz_uIn (by omega)]), by first | rfl | (repeat rw [cz_uRn (by omega)])⟩⟩
set_option maxHeartbeats 4000000 in
set_option maxRecDepth 100000 in
theorem fX12_total {l : Launch} {K N : Nat → Nat} {I : cz_I} {R : cz_R} {L : cz_L} (hf : cz_f2 K N I R) : Con l mX12_total [.ref 183] 203 K N I R L (fun r _ _ _ _ _ _ => r = some (.int ((-100000)))) := by
  obtain ⟨hK, hN, hR, hI, hI2⟩ := hf
  refine Con.of (by decide +kernel) rfl (Nat.le_of_ble_eq_true rfl) rfl (fun X137 hX137 zX137 => ?_)
  refine tr_aload_n dX12_total_0 rfl ?_
  refine tr_iconst (v := 0) dX12_total_1 (by decide +kernel) ?_
  refine tr_putI dX12_total_2 fl12_70 (hK 183 12 (by decide) kd_183) (Or.inl rfl) ?_
  refine tr_aload_n dX12_total_5 rfl ?_
  refine tr_getN dX12_total_6 fl12_385 (hK 183 12 (by decide) kd_183) (hR 183 3 none (by decide +kernel) (by decide +kernel)) ?_
  refine tr_ifnonnullN dX12_total_9 ?_
  refine tr_aload_n dX12_total_12 rfl ?_
  refine tr_iconst (v := 1) dX12_total_13 (by decide +kernel) ?_
  refine tr_inVi (M' := mX12_lost) (as := [_]) dX12_total_14 lk12_458 inX12_lost seX12_lost myX12_lost (by decide) ⟨by decide, by decide⟩ rfl (hK 183 12 (by decide) kd_183) (Nat.le_of_ble_eq_true rfl) (by decide) (by decide) (Con.of (by decide +kernel) rfl (Nat.le_of_ble_eq_true rfl) rfl (fun X138 hX138 zX138 => ?_))
  refine tr_aload_n dX12_lost_0 rfl ?_
  refine tr_iload_n dX12_lost_1 rfl ?_
  refine tr_inVi (M' := mX12_refused) (as := [_]) dX12_lost_2 lk12_76 inX12_refused seX12_refused myX12_refused (by decide) ⟨by decide, by decide⟩ rfl (hK 183 12 (by decide) kd_183) (Nat.le_of_ble_eq_true rfl) (by decide) (by decide) (Con.of (by decide +kernel) rfl (Nat.le_of_ble_eq_true rfl) rfl (fun X139 hX139 zX139 => ?_))
  refine tr_aload_n dX12_refused_0 rfl ?_
  refine tr_iload_n dX12_refused_1 rfl ?_
  refine tr_putI dX12_refused_2 fl12_73 (hK 183 12 (by decide) kd_183) (Or.inl rfl) ?_
  refine tr_aload_n dX12_refused_5 rfl ?_
  refine tr_iconst (v := (-1)) dX12_refused_6 (by decide +kernel) ?_
  refine tr_putI dX12_refused_7 fl12_9 (hK 183 12 (by decide) kd_183) (Or.inl rfl) ?_
  refine tr_iconst (v := (-1)) dX12_refused_10 (by decide +kernel) ?_
  refine tr_iret zX139 dX12_refused_11 rfl (by decide) (by decide) ⟨_, rfl, ?_⟩
  refine tr_pop dX12_lost_5 rfl ?_
  refine tr_ldc dX12_lost_6 ld12_80 ?_
  refine tr_iret zX138 dX12_lost_8 rfl (by decide) (by decide) ⟨_, rfl, ?_⟩
  refine tr_goto 28 dX12_total_17 (by decide) ?_
  exact tr_iret zX137 dX12_total_28 rfl (by decide) (by decide) rfl
set_option maxHeartbeats 4000000 in
set_option maxRecDepth 100000 in
theorem fX10_without (a : Int32) {l : Launch} {K N : Nat → Nat} {I : cz_I} {R : cz_R} {L : cz_L} (hf : cz_f1 K N I R) : Con l mX10_without [.ref 0, .int a] 203 K N I R L (fun r cn' K' N' I' R' _ => r = some (.int ((-100000))) ∧ cn' = 203 ∧ K' = K ∧ N' = N ∧ ∀ k : Nat, 183 ≤ k → I' k = I k ∧ R' k = R k) := by
  obtain ⟨hK, hN, hR, hI⟩ := hf
  refine Con.of (by decide +kernel) rfl (Nat.le_of_ble_eq_true rfl) rfl (fun X140 hX140 zX140 => ?_)
  refine tr_aload_n dX10_without_0 rfl ?_
  refine tr_iload_n dX10_without_1 rfl ?_
  refine tr_inVi (M' := mX10_isEvent) (as := [_]) dX10_without_2 lk10_234 inX10_isEvent seX10_isEvent myX10_isEvent (by decide) ⟨by decide, by decide⟩ rfl (hK 0 10 (by decide) kd_0) (Nat.le_of_ble_eq_true rfl) (by decide) (by decide) (Con.of (by decide +kernel) rfl (Nat.le_of_ble_eq_true rfl) rfl (fun X141 hX141 zX141 => ?_))
  refine tr_iload_n dX10_isEvent_0 rfl ?_
  refine tr_if_lt 16 dX10_isEvent_1 (by decide) (fun q142 => ?_) (fun q142 => ?_)
  · skip
    refine tr_iconst (v := 0) dX10_isEvent_16 (by decide +kernel) ?_
    refine tr_zret zX141 dX10_isEvent_17 rfl (Or.inl rfl) (by decide) (by decide) ⟨_, rfl, ?_⟩
    refine tr_if_ne 14 dX10_without_5 (by decide) (fun h => absurd (by decide +kernel) h) (fun _ => ?_)
    refine tr_aload_n dX10_without_8 rfl ?_
    refine tr_iconst (v := 1) dX10_without_9 (by decide +kernel) ?_
    refine tr_inVi (M' := mX10_refusedTotal) (as := [_]) dX10_without_10 lk10_178 inX10_refusedTotal seX10_refusedTotal myX10_refusedTotal (by decide) ⟨by decide, by decide⟩ rfl (hK 0 10 (by decide) kd_0) (Nat.le_of_ble_eq_true rfl) (by decide) (by decide) (Con.of (by decide +kernel) rfl (Nat.le_of_ble_eq_true rfl) rfl (fun X143 hX143 zX143 => ?_))
    refine tr_aload_n dX10_refusedTotal_0 rfl ?_
    refine tr_iload_n dX10_refusedTotal_1 rfl ?_
    refine tr_putI dX10_refusedTotal_2 fl10_112 (hK 0 10 (by decide) kd_0) (Or.inl rfl) ?_
    refine tr_ldcw dX10_refusedTotal_5 ld10_356 ?_
    refine tr_iret zX143 dX10_refusedTotal_8 rfl (by decide) (by decide) ⟨_, rfl, ?_⟩
    exact tr_iret zX140 dX10_without_13 rfl (by decide) (by decide) ⟨rfl, rfl, rfl, rfl, fun k hk => ⟨by first | rfl | (repeat rw [cz_uIn (by omega)]), by first | rfl | (repeat rw [cz_uRn (by omega)])⟩⟩
  · skip
    refine tr_iload_n dX10_isEvent_4 rfl ?_
    refine tr_aload_n dX10_isEvent_5 rfl ?_
    refine tr_inVi (M' := mX10_eventCount) (as := []) dX10_isEvent_6 lk10_225 inX10_eventCount seX10_eventCount myX10_eventCount (by decide) ⟨by decide, by decide⟩ rfl (hK 0 10 (by decide) kd_0) (Nat.le_of_ble_eq_true rfl) (by decide) (by decide) (Con.of (by decide +kernel) rfl (Nat.le_of_ble_eq_true rfl) rfl (fun X144 hX144 zX144 => ?_))
    refine tr_aload_n dX10_eventCount_0 rfl ?_
    refine tr_getR (x := 2) dX10_eventCount_1 fl10_16 (hK 0 10 (by decide) kd_0) (hR 0 2 (some 2) (by decide +kernel) rf_0_2) ?_
    refine tr_getI dX10_eventCount_4 fl10_311 (hK 2 0 (by decide) kd_2) ?_
    refine tr_topi 0 (hI 2 3 (by decide +kernel)) ?_
    refine tr_aload_n dX10_eventCount_7 rfl ?_
    refine tr_getR (x := 89) dX10_eventCount_8 fl10_35 (hK 0 10 (by decide) kd_0) (hR 0 6 (some 89) (by decide +kernel) rf_0_6) ?_
    refine tr_getI dX10_eventCount_11 fl10_272 (hK 89 3 (by decide) kd_89) ?_
    refine tr_topi 0 (hI 89 2 (by decide +kernel)) ?_
    refine tr_iadd dX10_eventCount_14 ?_
    refine tr_topi 0 (by decide +kernel) ?_
    refine tr_iret zX144 dX10_eventCount_15 rfl (by decide) (by decide) ⟨_, rfl, ?_⟩
    refine tr_icmp_ge 16 dX10_isEvent_9 (by decide) (fun q145 => ?_) (fun q145 => ?_)
    · skip
      refine tr_iconst (v := 0) dX10_isEvent_16 (by decide +kernel) ?_
      refine tr_zret zX141 dX10_isEvent_17 rfl (Or.inl rfl) (by decide) (by decide) ⟨_, rfl, ?_⟩
      refine tr_if_ne 14 dX10_without_5 (by decide) (fun h => absurd (by decide +kernel) h) (fun _ => ?_)
      refine tr_aload_n dX10_without_8 rfl ?_
      refine tr_iconst (v := 1) dX10_without_9 (by decide +kernel) ?_
      refine tr_inVi (M' := mX10_refusedTotal) (as := [_]) dX10_without_10 lk10_178 inX10_refusedTotal seX10_refusedTotal myX10_refusedTotal (by decide) ⟨by decide, by decide⟩ rfl (hK 0 10 (by decide) kd_0) (Nat.le_of_ble_eq_true rfl) (by decide) (by decide) (Con.of (by decide +kernel) rfl (Nat.le_of_ble_eq_true rfl) rfl (fun X146 hX146 zX146 => ?_))
      refine tr_aload_n dX10_refusedTotal_0 rfl ?_
      refine tr_iload_n dX10_refusedTotal_1 rfl ?_
      refine tr_putI dX10_refusedTotal_2 fl10_112 (hK 0 10 (by decide) kd_0) (Or.inl rfl) ?_
      refine tr_ldcw dX10_refusedTotal_5 ld10_356 ?_
      refine tr_iret zX146 dX10_refusedTotal_8 rfl (by decide) (by decide) ⟨_, rfl, ?_⟩
      exact tr_iret zX140 dX10_without_13 rfl (by decide) (by decide) ⟨rfl, rfl, rfl, rfl, fun k hk => ⟨by first | rfl | (repeat rw [cz_uIn (by omega)]), by first | rfl | (repeat rw [cz_uRn (by omega)])⟩⟩
    · skip
      exfalso
      have e0 : ((0 : Int32)).toInt = 0 := by decide +kernel
      simp only [Int32.lt_iff_toInt_lt, Int32.le_iff_toInt_le, ← Int32.toInt_inj] at q145
      simp only [Int32.lt_iff_toInt_lt, Int32.le_iff_toInt_le, ← Int32.toInt_inj] at q142
      omega
set_option maxHeartbeats 4000000 in
set_option maxRecDepth 100000 in
theorem fX12_without (a : Int32) {l : Launch} {K N : Nat → Nat} {I : cz_I} {R : cz_R} {L : cz_L} (hf : cz_f2 K N I R) : Con l mX12_without [.ref 183, .int a] 203 K N I R L (fun r _ _ _ _ _ _ => r = some (.int ((-100000)))) := by
  obtain ⟨hK, hN, hR, hI, hI2⟩ := hf
  refine Con.of (by decide +kernel) rfl (Nat.le_of_ble_eq_true rfl) rfl (fun X147 hX147 zX147 => ?_)
  refine tr_aload_n dX12_without_0 rfl ?_
  refine tr_iconst (v := 0) dX12_without_1 (by decide +kernel) ?_
  refine tr_putI dX12_without_2 fl12_70 (hK 183 12 (by decide) kd_183) (Or.inl rfl) ?_
  refine tr_aload_n dX12_without_5 rfl ?_
  refine tr_iload_n dX12_without_6 rfl ?_
  refine tr_inVi (M' := mX12_isEvent) (as := [_]) dX12_without_7 lk12_467 inX12_isEvent seX12_isEvent myX12_isEvent (by decide) ⟨by decide, by decide⟩ rfl (hK 183 12 (by decide) kd_183) (Nat.le_of_ble_eq_true rfl) (by decide) (by decide) (Con.of (by decide +kernel) rfl (Nat.le_of_ble_eq_true rfl) rfl (fun X148 hX148 zX148 => ?_))
  refine tr_aload_n dX12_isEvent_0 rfl ?_
  refine tr_getN dX12_isEvent_1 fl12_385 (hK 183 12 (by decide) kd_183) (hR 183 3 none (by decide +kernel) (by decide +kernel)) ?_
  refine tr_ifnullN 23 dX12_isEvent_4 (by decide) ?_
  refine tr_iconst (v := 0) dX12_isEvent_23 (by decide +kernel) ?_
  refine tr_zret zX148 dX12_isEvent_24 rfl (Or.inl rfl) (by decide) (by decide) ⟨_, rfl, ?_⟩
  refine tr_if_ne 19 dX12_without_10 (by decide) (fun h => absurd (by decide +kernel) h) (fun _ => ?_)
  refine tr_aload_n dX12_without_13 rfl ?_
  refine tr_iconst (v := 1) dX12_without_14 (by decide +kernel) ?_
  refine tr_inVi (M' := mX12_lost) (as := [_]) dX12_without_15 lk12_458 inX12_lost seX12_lost myX12_lost (by decide) ⟨by decide, by decide⟩ rfl (hK 183 12 (by decide) kd_183) (Nat.le_of_ble_eq_true rfl) (by decide) (by decide) (Con.of (by decide +kernel) rfl (Nat.le_of_ble_eq_true rfl) rfl (fun X149 hX149 zX149 => ?_))
  refine tr_aload_n dX12_lost_0 rfl ?_
  refine tr_iload_n dX12_lost_1 rfl ?_
  refine tr_inVi (M' := mX12_refused) (as := [_]) dX12_lost_2 lk12_76 inX12_refused seX12_refused myX12_refused (by decide) ⟨by decide, by decide⟩ rfl (hK 183 12 (by decide) kd_183) (Nat.le_of_ble_eq_true rfl) (by decide) (by decide) (Con.of (by decide +kernel) rfl (Nat.le_of_ble_eq_true rfl) rfl (fun X150 hX150 zX150 => ?_))
  refine tr_aload_n dX12_refused_0 rfl ?_
  refine tr_iload_n dX12_refused_1 rfl ?_
  refine tr_putI dX12_refused_2 fl12_73 (hK 183 12 (by decide) kd_183) (Or.inl rfl) ?_
  refine tr_aload_n dX12_refused_5 rfl ?_
  refine tr_iconst (v := (-1)) dX12_refused_6 (by decide +kernel) ?_
  refine tr_putI dX12_refused_7 fl12_9 (hK 183 12 (by decide) kd_183) (Or.inl rfl) ?_
  refine tr_iconst (v := (-1)) dX12_refused_10 (by decide +kernel) ?_
  refine tr_iret zX150 dX12_refused_11 rfl (by decide) (by decide) ⟨_, rfl, ?_⟩
  refine tr_pop dX12_lost_5 rfl ?_
  refine tr_ldc dX12_lost_6 ld12_80 ?_
  refine tr_iret zX149 dX12_lost_8 rfl (by decide) (by decide) ⟨_, rfl, ?_⟩
  exact tr_iret zX147 dX12_without_18 rfl (by decide) (by decide) rfl
set_option maxHeartbeats 4000000 in
set_option maxRecDepth 100000 in
theorem fX10_wake {l : Launch} {K N : Nat → Nat} {I : cz_I} {R : cz_R} {L : cz_L} (hf : cz_f1 K N I R) : Con l mX10_wake [.ref 0] 203 K N I R L (fun r cn' K' N' I' R' _ => r = some (.int ((-1))) ∧ cn' = 203 ∧ K' = K ∧ N' = N ∧ ∀ k : Nat, 183 ≤ k → I' k = I k ∧ R' k = R k) := by
  obtain ⟨hK, hN, hR, hI⟩ := hf
  refine Con.of (by decide +kernel) rfl (Nat.le_of_ble_eq_true rfl) rfl (fun X151 hX151 zX151 => ?_)
  refine tr_aload_n dX10_wake_0 rfl ?_
  refine tr_getZ dX10_wake_1 fl10_95 (hK 0 10 (by decide) kd_0) ?_
  refine tr_topi 0 (hI 0 5 (by decide +kernel)) ?_
  refine tr_if_eq 18 dX10_wake_4 (by decide) (fun _ => ?_) (fun h => absurd (by decide +kernel) h)
  refine tr_aload_n dX10_wake_18 rfl ?_
  refine tr_iconst (v := 1) dX10_wake_19 (by decide +kernel) ?_
  refine tr_inVi (M' := mX10_refused) (as := [_]) dX10_wake_20 lk10_79 inX10_refused seX10_refused myX10_refused (by decide) ⟨by decide, by decide⟩ rfl (hK 0 10 (by decide) kd_0) (Nat.le_of_ble_eq_true rfl) (by decide) (by decide) (Con.of (by decide +kernel) rfl (Nat.le_of_ble_eq_true rfl) rfl (fun X152 hX152 zX152 => ?_))
  refine tr_aload_n dX10_refused_0 rfl ?_
  refine tr_iload_n dX10_refused_1 rfl ?_
  refine tr_putI dX10_refused_2 fl10_112 (hK 0 10 (by decide) kd_0) (Or.inl rfl) ?_
  refine tr_iconst (v := (-1)) dX10_refused_5 (by decide +kernel) ?_
  refine tr_iret zX152 dX10_refused_6 rfl (by decide) (by decide) ⟨_, rfl, ?_⟩
  exact tr_iret zX151 dX10_wake_23 rfl (by decide) (by decide) ⟨rfl, rfl, rfl, rfl, fun k hk => ⟨by first | rfl | (repeat rw [cz_uIn (by omega)]), by first | rfl | (repeat rw [cz_uRn (by omega)])⟩⟩
set_option maxHeartbeats 4000000 in
set_option maxRecDepth 100000 in
theorem fX12_wake {l : Launch} {K N : Nat → Nat} {I : cz_I} {R : cz_R} {L : cz_L} (hf : cz_f2 K N I R) : Con l mX12_wake [.ref 183] 203 K N I R L (fun r _ _ _ _ _ _ => r = some (.int ((-1)))) := by
  obtain ⟨hK, hN, hR, hI, hI2⟩ := hf
  refine Con.of (by decide +kernel) rfl (Nat.le_of_ble_eq_true rfl) rfl (fun X153 hX153 zX153 => ?_)
  refine tr_aload_n dX12_wake_0 rfl ?_
  refine tr_iconst (v := 0) dX12_wake_1 (by decide +kernel) ?_
  refine tr_putI dX12_wake_2 fl12_70 (hK 183 12 (by decide) kd_183) (Or.inl rfl) ?_
  refine tr_aload_n dX12_wake_5 rfl ?_
  refine tr_getN dX12_wake_6 fl12_385 (hK 183 12 (by decide) kd_183) (hR 183 3 none (by decide +kernel) (by decide +kernel)) ?_
  refine tr_ifnonnullN dX12_wake_9 ?_
  refine tr_aload_n dX12_wake_12 rfl ?_
  refine tr_iconst (v := 1) dX12_wake_13 (by decide +kernel) ?_
  refine tr_inVi (M' := mX12_refused) (as := [_]) dX12_wake_14 lk12_76 inX12_refused seX12_refused myX12_refused (by decide) ⟨by decide, by decide⟩ rfl (hK 183 12 (by decide) kd_183) (Nat.le_of_ble_eq_true rfl) (by decide) (by decide) (Con.of (by decide +kernel) rfl (Nat.le_of_ble_eq_true rfl) rfl (fun X154 hX154 zX154 => ?_))
  refine tr_aload_n dX12_refused_0 rfl ?_
  refine tr_iload_n dX12_refused_1 rfl ?_
  refine tr_putI dX12_refused_2 fl12_73 (hK 183 12 (by decide) kd_183) (Or.inl rfl) ?_
  refine tr_aload_n dX12_refused_5 rfl ?_
  refine tr_iconst (v := (-1)) dX12_refused_6 (by decide +kernel) ?_
  refine tr_putI dX12_refused_7 fl12_9 (hK 183 12 (by decide) kd_183) (Or.inl rfl) ?_
  refine tr_iconst (v := (-1)) dX12_refused_10 (by decide +kernel) ?_
  refine tr_iret zX154 dX12_refused_11 rfl (by decide) (by decide) ⟨_, rfl, ?_⟩
  refine tr_goto 28 dX12_wake_17 (by decide) ?_
  exact tr_iret zX153 dX12_wake_28 rfl (by decide) (by decide) rfl
set_option maxHeartbeats 4000000 in
set_option maxRecDepth 100000 in
theorem fX10_wakeTotal {l : Launch} {K N : Nat → Nat} {I : cz_I} {R : cz_R} {L : cz_L} (hf : cz_f1 K N I R) : Con l mX10_wakeTotal [.ref 0] 203 K N I R L (fun r cn' K' N' I' R' _ => r = some (.int ((-100000))) ∧ cn' = 203 ∧ K' = K ∧ N' = N ∧ ∀ k : Nat, 183 ≤ k → I' k = I k ∧ R' k = R k) := by
  obtain ⟨hK, hN, hR, hI⟩ := hf
  refine Con.of (by decide +kernel) rfl (Nat.le_of_ble_eq_true rfl) rfl (fun X155 hX155 zX155 => ?_)
  refine tr_aload_n dX10_wakeTotal_0 rfl ?_
  refine tr_getZ dX10_wakeTotal_1 fl10_95 (hK 0 10 (by decide) kd_0) ?_
  refine tr_topi 0 (hI 0 5 (by decide +kernel)) ?_
  refine tr_if_ne 13 dX10_wakeTotal_4 (by decide) (fun h => absurd (by decide +kernel) h) (fun _ => ?_)
  refine tr_aload_n dX10_wakeTotal_7 rfl ?_
  refine tr_iconst (v := 1) dX10_wakeTotal_8 (by decide +kernel) ?_
  refine tr_inVi (M' := mX10_refusedTotal) (as := [_]) dX10_wakeTotal_9 lk10_178 inX10_refusedTotal seX10_refusedTotal myX10_refusedTotal (by decide) ⟨by decide, by decide⟩ rfl (hK 0 10 (by decide) kd_0) (Nat.le_of_ble_eq_true rfl) (by decide) (by decide) (Con.of (by decide +kernel) rfl (Nat.le_of_ble_eq_true rfl) rfl (fun X156 hX156 zX156 => ?_))
  refine tr_aload_n dX10_refusedTotal_0 rfl ?_
  refine tr_iload_n dX10_refusedTotal_1 rfl ?_
  refine tr_putI dX10_refusedTotal_2 fl10_112 (hK 0 10 (by decide) kd_0) (Or.inl rfl) ?_
  refine tr_ldcw dX10_refusedTotal_5 ld10_356 ?_
  refine tr_iret zX156 dX10_refusedTotal_8 rfl (by decide) (by decide) ⟨_, rfl, ?_⟩
  exact tr_iret zX155 dX10_wakeTotal_12 rfl (by decide) (by decide) ⟨rfl, rfl, rfl, rfl, fun k hk => ⟨by first | rfl | (repeat rw [cz_uIn (by omega)]), by first | rfl | (repeat rw [cz_uRn (by omega)])⟩⟩
set_option maxHeartbeats 4000000 in
set_option maxRecDepth 100000 in
theorem fX12_wakeTotal {l : Launch} {K N : Nat → Nat} {I : cz_I} {R : cz_R} {L : cz_L} (hf : cz_f2 K N I R) : Con l mX12_wakeTotal [.ref 183] 203 K N I R L (fun r _ _ _ _ _ _ => r = some (.int ((-100000)))) := by
  obtain ⟨hK, hN, hR, hI, hI2⟩ := hf
  refine Con.of (by decide +kernel) rfl (Nat.le_of_ble_eq_true rfl) rfl (fun X157 hX157 zX157 => ?_)
  refine tr_aload_n dX12_wakeTotal_0 rfl ?_
  refine tr_iconst (v := 0) dX12_wakeTotal_1 (by decide +kernel) ?_
  refine tr_putI dX12_wakeTotal_2 fl12_70 (hK 183 12 (by decide) kd_183) (Or.inl rfl) ?_
  refine tr_aload_n dX12_wakeTotal_5 rfl ?_
  refine tr_getN dX12_wakeTotal_6 fl12_385 (hK 183 12 (by decide) kd_183) (hR 183 3 none (by decide +kernel) (by decide +kernel)) ?_
  refine tr_ifnonnullN dX12_wakeTotal_9 ?_
  refine tr_aload_n dX12_wakeTotal_12 rfl ?_
  refine tr_iconst (v := 1) dX12_wakeTotal_13 (by decide +kernel) ?_
  refine tr_inVi (M' := mX12_lost) (as := [_]) dX12_wakeTotal_14 lk12_458 inX12_lost seX12_lost myX12_lost (by decide) ⟨by decide, by decide⟩ rfl (hK 183 12 (by decide) kd_183) (Nat.le_of_ble_eq_true rfl) (by decide) (by decide) (Con.of (by decide +kernel) rfl (Nat.le_of_ble_eq_true rfl) rfl (fun X158 hX158 zX158 => ?_))
  refine tr_aload_n dX12_lost_0 rfl ?_
  refine tr_iload_n dX12_lost_1 rfl ?_
  refine tr_inVi (M' := mX12_refused) (as := [_]) dX12_lost_2 lk12_76 inX12_refused seX12_refused myX12_refused (by decide) ⟨by decide, by decide⟩ rfl (hK 183 12 (by decide) kd_183) (Nat.le_of_ble_eq_true rfl) (by decide) (by decide) (Con.of (by decide +kernel) rfl (Nat.le_of_ble_eq_true rfl) rfl (fun X159 hX159 zX159 => ?_))
  refine tr_aload_n dX12_refused_0 rfl ?_
  refine tr_iload_n dX12_refused_1 rfl ?_
  refine tr_putI dX12_refused_2 fl12_73 (hK 183 12 (by decide) kd_183) (Or.inl rfl) ?_
  refine tr_aload_n dX12_refused_5 rfl ?_
  refine tr_iconst (v := (-1)) dX12_refused_6 (by decide +kernel) ?_
  refine tr_putI dX12_refused_7 fl12_9 (hK 183 12 (by decide) kd_183) (Or.inl rfl) ?_
  refine tr_iconst (v := (-1)) dX12_refused_10 (by decide +kernel) ?_
  refine tr_iret zX159 dX12_refused_11 rfl (by decide) (by decide) ⟨_, rfl, ?_⟩
  refine tr_pop dX12_lost_5 rfl ?_
  refine tr_ldc dX12_lost_6 ld12_80 ?_
  refine tr_iret zX158 dX12_lost_8 rfl (by decide) (by decide) ⟨_, rfl, ?_⟩
  exact tr_iret zX157 dX12_wakeTotal_17 rfl (by decide) (by decide) rfl
set_option maxHeartbeats 4000000 in
set_option maxRecDepth 100000 in
theorem fX10_fewest {l : Launch} {K N : Nat → Nat} {I : cz_I} {R : cz_R} {L : cz_L} (hf : cz_f1 K N I R) : Con l mX10_fewest [.ref 0] 203 K N I R L (fun r cn' K' N' I' R' _ => r = some (.int ((-1))) ∧ cn' = 203 ∧ K' = K ∧ N' = N ∧ ∀ k : Nat, 183 ≤ k → I' k = I k ∧ R' k = R k) := by
  obtain ⟨hK, hN, hR, hI⟩ := hf
  refine Con.of (by decide +kernel) rfl (Nat.le_of_ble_eq_true rfl) rfl (fun X160 hX160 zX160 => ?_)
  refine tr_aload_n dX10_fewest_0 rfl ?_
  refine tr_getZ dX10_fewest_1 fl10_95 (hK 0 10 (by decide) kd_0) ?_
  refine tr_topi 0 (hI 0 5 (by decide +kernel)) ?_
  refine tr_if_ne 13 dX10_fewest_4 (by decide) (fun h => absurd (by decide +kernel) h) (fun _ => ?_)
  refine tr_aload_n dX10_fewest_7 rfl ?_
  refine tr_iconst (v := 1) dX10_fewest_8 (by decide +kernel) ?_
  refine tr_inVi (M' := mX10_refused) (as := [_]) dX10_fewest_9 lk10_79 inX10_refused seX10_refused myX10_refused (by decide) ⟨by decide, by decide⟩ rfl (hK 0 10 (by decide) kd_0) (Nat.le_of_ble_eq_true rfl) (by decide) (by decide) (Con.of (by decide +kernel) rfl (Nat.le_of_ble_eq_true rfl) rfl (fun X161 hX161 zX161 => ?_))
  refine tr_aload_n dX10_refused_0 rfl ?_
  refine tr_iload_n dX10_refused_1 rfl ?_
  refine tr_putI dX10_refused_2 fl10_112 (hK 0 10 (by decide) kd_0) (Or.inl rfl) ?_
  refine tr_iconst (v := (-1)) dX10_refused_5 (by decide +kernel) ?_
  refine tr_iret zX161 dX10_refused_6 rfl (by decide) (by decide) ⟨_, rfl, ?_⟩
  exact tr_iret zX160 dX10_fewest_12 rfl (by decide) (by decide) ⟨rfl, rfl, rfl, rfl, fun k hk => ⟨by first | rfl | (repeat rw [cz_uIn (by omega)]), by first | rfl | (repeat rw [cz_uRn (by omega)])⟩⟩
set_option maxHeartbeats 4000000 in
set_option maxRecDepth 100000 in
theorem fX12_fewest {l : Launch} {K N : Nat → Nat} {I : cz_I} {R : cz_R} {L : cz_L} (hf : cz_f2 K N I R) : Con l mX12_fewest [.ref 183] 203 K N I R L (fun r _ _ _ _ _ _ => r = some (.int ((-1)))) := by
  obtain ⟨hK, hN, hR, hI, hI2⟩ := hf
  refine Con.of (by decide +kernel) rfl (Nat.le_of_ble_eq_true rfl) rfl (fun X162 hX162 zX162 => ?_)
  refine tr_aload_n dX12_fewest_0 rfl ?_
  refine tr_iconst (v := 0) dX12_fewest_1 (by decide +kernel) ?_
  refine tr_putI dX12_fewest_2 fl12_70 (hK 183 12 (by decide) kd_183) (Or.inl rfl) ?_
  refine tr_aload_n dX12_fewest_5 rfl ?_
  refine tr_getN dX12_fewest_6 fl12_385 (hK 183 12 (by decide) kd_183) (hR 183 3 none (by decide +kernel) (by decide +kernel)) ?_
  refine tr_ifnonnullN dX12_fewest_9 ?_
  refine tr_aload_n dX12_fewest_12 rfl ?_
  refine tr_iconst (v := 1) dX12_fewest_13 (by decide +kernel) ?_
  refine tr_inVi (M' := mX12_refused) (as := [_]) dX12_fewest_14 lk12_76 inX12_refused seX12_refused myX12_refused (by decide) ⟨by decide, by decide⟩ rfl (hK 183 12 (by decide) kd_183) (Nat.le_of_ble_eq_true rfl) (by decide) (by decide) (Con.of (by decide +kernel) rfl (Nat.le_of_ble_eq_true rfl) rfl (fun X163 hX163 zX163 => ?_))
  refine tr_aload_n dX12_refused_0 rfl ?_
  refine tr_iload_n dX12_refused_1 rfl ?_
  refine tr_putI dX12_refused_2 fl12_73 (hK 183 12 (by decide) kd_183) (Or.inl rfl) ?_
  refine tr_aload_n dX12_refused_5 rfl ?_
  refine tr_iconst (v := (-1)) dX12_refused_6 (by decide +kernel) ?_
  refine tr_putI dX12_refused_7 fl12_9 (hK 183 12 (by decide) kd_183) (Or.inl rfl) ?_
  refine tr_iconst (v := (-1)) dX12_refused_10 (by decide +kernel) ?_
  refine tr_iret zX163 dX12_refused_11 rfl (by decide) (by decide) ⟨_, rfl, ?_⟩
  exact tr_iret zX162 dX12_fewest_17 rfl (by decide) (by decide) rfl
set_option maxHeartbeats 4000000 in
set_option maxRecDepth 100000 in
theorem fX10_fewestBy {l : Launch} {K N : Nat → Nat} {I : cz_I} {R : cz_R} {L : cz_L} (hf : cz_f1 K N I R) : Con l mX10_fewestBy [.ref 0] 203 K N I R L (fun r cn' K' N' I' R' _ => r = some (.int ((-1))) ∧ cn' = 203 ∧ K' = K ∧ N' = N ∧ ∀ k : Nat, 183 ≤ k → I' k = I k ∧ R' k = R k) := by
  obtain ⟨hK, hN, hR, hI⟩ := hf
  refine Con.of (by decide +kernel) rfl (Nat.le_of_ble_eq_true rfl) rfl (fun X164 hX164 zX164 => ?_)
  refine tr_aload_n dX10_fewestBy_0 rfl ?_
  refine tr_getZ dX10_fewestBy_1 fl10_95 (hK 0 10 (by decide) kd_0) ?_
  refine tr_topi 0 (hI 0 5 (by decide +kernel)) ?_
  refine tr_if_eq 18 dX10_fewestBy_4 (by decide) (fun _ => ?_) (fun h => absurd (by decide +kernel) h)
  refine tr_aload_n dX10_fewestBy_18 rfl ?_
  refine tr_iconst (v := 1) dX10_fewestBy_19 (by decide +kernel) ?_
  refine tr_inVi (M' := mX10_refused) (as := [_]) dX10_fewestBy_20 lk10_79 inX10_refused seX10_refused myX10_refused (by decide) ⟨by decide, by decide⟩ rfl (hK 0 10 (by decide) kd_0) (Nat.le_of_ble_eq_true rfl) (by decide) (by decide) (Con.of (by decide +kernel) rfl (Nat.le_of_ble_eq_true rfl) rfl (fun X165 hX165 zX165 => ?_))
  refine tr_aload_n dX10_refused_0 rfl ?_
  refine tr_iload_n dX10_refused_1 rfl ?_
  refine tr_putI dX10_refused_2 fl10_112 (hK 0 10 (by decide) kd_0) (Or.inl rfl) ?_
  refine tr_iconst (v := (-1)) dX10_refused_5 (by decide +kernel) ?_
  refine tr_iret zX165 dX10_refused_6 rfl (by decide) (by decide) ⟨_, rfl, ?_⟩
  exact tr_iret zX164 dX10_fewestBy_23 rfl (by decide) (by decide) ⟨rfl, rfl, rfl, rfl, fun k hk => ⟨by first | rfl | (repeat rw [cz_uIn (by omega)]), by first | rfl | (repeat rw [cz_uRn (by omega)])⟩⟩
set_option maxHeartbeats 4000000 in
set_option maxRecDepth 100000 in
theorem fX12_fewestBy {l : Launch} {K N : Nat → Nat} {I : cz_I} {R : cz_R} {L : cz_L} (hf : cz_f2 K N I R) : Con l mX12_fewestBy [.ref 183] 203 K N I R L (fun r _ _ _ _ _ _ => r = some (.int ((-1)))) := by
  obtain ⟨hK, hN, hR, hI, hI2⟩ := hf
  refine Con.of (by decide +kernel) rfl (Nat.le_of_ble_eq_true rfl) rfl (fun X166 hX166 zX166 => ?_)
  refine tr_aload_n dX12_fewestBy_0 rfl ?_
  refine tr_iconst (v := 0) dX12_fewestBy_1 (by decide +kernel) ?_
  refine tr_putI dX12_fewestBy_2 fl12_70 (hK 183 12 (by decide) kd_183) (Or.inl rfl) ?_
  refine tr_aload_n dX12_fewestBy_5 rfl ?_
  refine tr_getN dX12_fewestBy_6 fl12_385 (hK 183 12 (by decide) kd_183) (hR 183 3 none (by decide +kernel) (by decide +kernel)) ?_
  refine tr_ifnonnullN dX12_fewestBy_9 ?_
  refine tr_aload_n dX12_fewestBy_12 rfl ?_
  refine tr_iconst (v := 1) dX12_fewestBy_13 (by decide +kernel) ?_
  refine tr_inVi (M' := mX12_refused) (as := [_]) dX12_fewestBy_14 lk12_76 inX12_refused seX12_refused myX12_refused (by decide) ⟨by decide, by decide⟩ rfl (hK 183 12 (by decide) kd_183) (Nat.le_of_ble_eq_true rfl) (by decide) (by decide) (Con.of (by decide +kernel) rfl (Nat.le_of_ble_eq_true rfl) rfl (fun X167 hX167 zX167 => ?_))
  refine tr_aload_n dX12_refused_0 rfl ?_
  refine tr_iload_n dX12_refused_1 rfl ?_
  refine tr_putI dX12_refused_2 fl12_73 (hK 183 12 (by decide) kd_183) (Or.inl rfl) ?_
  refine tr_aload_n dX12_refused_5 rfl ?_
  refine tr_iconst (v := (-1)) dX12_refused_6 (by decide +kernel) ?_
  refine tr_putI dX12_refused_7 fl12_9 (hK 183 12 (by decide) kd_183) (Or.inl rfl) ?_
  refine tr_iconst (v := (-1)) dX12_refused_10 (by decide +kernel) ?_
  refine tr_iret zX167 dX12_refused_11 rfl (by decide) (by decide) ⟨_, rfl, ?_⟩
  refine tr_goto 28 dX12_fewestBy_17 (by decide) ?_
  exact tr_iret zX166 dX12_fewestBy_28 rfl (by decide) (by decide) rfl
set_option maxHeartbeats 4000000 in
set_option maxRecDepth 100000 in
theorem fX10_fits (a : Int32) {l : Launch} {K N : Nat → Nat} {I : cz_I} {R : cz_R} {L : cz_L} (hf : cz_f1 K N I R) : Con l mX10_fits [.ref 0, .int a] 203 K N I R L (fun r cn' K' N' I' R' _ => r = some (.int ((-1))) ∧ cn' = 203 ∧ K' = K ∧ N' = N ∧ ∀ k : Nat, 183 ≤ k → I' k = I k ∧ R' k = R k) := by
  obtain ⟨hK, hN, hR, hI⟩ := hf
  refine Con.of (by decide +kernel) rfl (Nat.le_of_ble_eq_true rfl) rfl (fun X168 hX168 zX168 => ?_)
  refine tr_aload_n dX10_fits_0 rfl ?_
  refine tr_iload_n dX10_fits_1 rfl ?_
  refine tr_inVi (M' := mX10_isSlice) (as := [_]) dX10_fits_2 lk10_252 inX10_isSlice seX10_isSlice myX10_isSlice (by decide) ⟨by decide, by decide⟩ rfl (hK 0 10 (by decide) kd_0) (Nat.le_of_ble_eq_true rfl) (by decide) (by decide) (Con.of (by decide +kernel) rfl (Nat.le_of_ble_eq_true rfl) rfl (fun X169 hX169 zX169 => ?_))
  refine tr_iload_n dX10_isSlice_0 rfl ?_
  refine tr_if_lt 19 dX10_isSlice_1 (by decide) (fun q170 => ?_) (fun q170 => ?_)
  · skip
    refine tr_iconst (v := 0) dX10_isSlice_19 (by decide +kernel) ?_
    refine tr_zret zX169 dX10_isSlice_20 rfl (Or.inl rfl) (by decide) (by decide) ⟨_, rfl, ?_⟩
    refine tr_if_ne 14 dX10_fits_5 (by decide) (fun h => absurd (by decide +kernel) h) (fun _ => ?_)
    refine tr_aload_n dX10_fits_8 rfl ?_
    refine tr_iconst (v := 1) dX10_fits_9 (by decide +kernel) ?_
    refine tr_inVi (M' := mX10_refused) (as := [_]) dX10_fits_10 lk10_79 inX10_refused seX10_refused myX10_refused (by decide) ⟨by decide, by decide⟩ rfl (hK 0 10 (by decide) kd_0) (Nat.le_of_ble_eq_true rfl) (by decide) (by decide) (Con.of (by decide +kernel) rfl (Nat.le_of_ble_eq_true rfl) rfl (fun X171 hX171 zX171 => ?_))
    refine tr_aload_n dX10_refused_0 rfl ?_
    refine tr_iload_n dX10_refused_1 rfl ?_
    refine tr_putI dX10_refused_2 fl10_112 (hK 0 10 (by decide) kd_0) (Or.inl rfl) ?_
    refine tr_iconst (v := (-1)) dX10_refused_5 (by decide +kernel) ?_
    refine tr_iret zX171 dX10_refused_6 rfl (by decide) (by decide) ⟨_, rfl, ?_⟩
    exact tr_iret zX168 dX10_fits_13 rfl (by decide) (by decide) ⟨rfl, rfl, rfl, rfl, fun k hk => ⟨by first | rfl | (repeat rw [cz_uIn (by omega)]), by first | rfl | (repeat rw [cz_uRn (by omega)])⟩⟩
  · skip
    refine tr_iload_n dX10_isSlice_4 rfl ?_
    refine tr_aload_n dX10_isSlice_5 rfl ?_
    refine tr_getR (x := 2) dX10_isSlice_6 fl10_16 (hK 0 10 (by decide) kd_0) (hR 0 2 (some 2) (by decide +kernel) rf_0_2) ?_
    refine tr_getI dX10_isSlice_9 fl10_338 (hK 2 0 (by decide) kd_2) ?_
    refine tr_topi 0 (hI 2 13 (by decide +kernel)) ?_
    refine tr_icmp_ge 19 dX10_isSlice_12 (by decide) (fun q172 => ?_) (fun q172 => ?_)
    · skip
      refine tr_iconst (v := 0) dX10_isSlice_19 (by decide +kernel) ?_
      refine tr_zret zX169 dX10_isSlice_20 rfl (Or.inl rfl) (by decide) (by decide) ⟨_, rfl, ?_⟩
      refine tr_if_ne 14 dX10_fits_5 (by decide) (fun h => absurd (by decide +kernel) h) (fun _ => ?_)
      refine tr_aload_n dX10_fits_8 rfl ?_
      refine tr_iconst (v := 1) dX10_fits_9 (by decide +kernel) ?_
      refine tr_inVi (M' := mX10_refused) (as := [_]) dX10_fits_10 lk10_79 inX10_refused seX10_refused myX10_refused (by decide) ⟨by decide, by decide⟩ rfl (hK 0 10 (by decide) kd_0) (Nat.le_of_ble_eq_true rfl) (by decide) (by decide) (Con.of (by decide +kernel) rfl (Nat.le_of_ble_eq_true rfl) rfl (fun X173 hX173 zX173 => ?_))
      refine tr_aload_n dX10_refused_0 rfl ?_
      refine tr_iload_n dX10_refused_1 rfl ?_
      refine tr_putI dX10_refused_2 fl10_112 (hK 0 10 (by decide) kd_0) (Or.inl rfl) ?_
      refine tr_iconst (v := (-1)) dX10_refused_5 (by decide +kernel) ?_
      refine tr_iret zX173 dX10_refused_6 rfl (by decide) (by decide) ⟨_, rfl, ?_⟩
      exact tr_iret zX168 dX10_fits_13 rfl (by decide) (by decide) ⟨rfl, rfl, rfl, rfl, fun k hk => ⟨by first | rfl | (repeat rw [cz_uIn (by omega)]), by first | rfl | (repeat rw [cz_uRn (by omega)])⟩⟩
    · skip
      exfalso
      have e0 : ((0 : Int32)).toInt = 0 := by decide +kernel
      simp only [Int32.lt_iff_toInt_lt, Int32.le_iff_toInt_le, ← Int32.toInt_inj] at q172
      simp only [Int32.lt_iff_toInt_lt, Int32.le_iff_toInt_le, ← Int32.toInt_inj] at q170
      omega
set_option maxHeartbeats 4000000 in
set_option maxRecDepth 100000 in
theorem fX12_fits (a : Int32) {l : Launch} {K N : Nat → Nat} {I : cz_I} {R : cz_R} {L : cz_L} (hf : cz_f2 K N I R) : Con l mX12_fits [.ref 183, .int a] 203 K N I R L (fun r _ _ _ _ _ _ => r = some (.int ((-1)))) := by
  obtain ⟨hK, hN, hR, hI, hI2⟩ := hf
  refine Con.of (by decide +kernel) rfl (Nat.le_of_ble_eq_true rfl) rfl (fun X174 hX174 zX174 => ?_)
  refine tr_aload_n dX12_fits_0 rfl ?_
  refine tr_iconst (v := 0) dX12_fits_1 (by decide +kernel) ?_
  refine tr_putI dX12_fits_2 fl12_70 (hK 183 12 (by decide) kd_183) (Or.inl rfl) ?_
  refine tr_aload_n dX12_fits_5 rfl ?_
  refine tr_iload_n dX12_fits_6 rfl ?_
  refine tr_inVi (M' := mX12_isSlice) (as := [_]) dX12_fits_7 lk12_485 inX12_isSlice seX12_isSlice myX12_isSlice (by decide) ⟨by decide, by decide⟩ rfl (hK 183 12 (by decide) kd_183) (Nat.le_of_ble_eq_true rfl) (by decide) (by decide) (Con.of (by decide +kernel) rfl (Nat.le_of_ble_eq_true rfl) rfl (fun X175 hX175 zX175 => ?_))
  refine tr_aload_n dX12_isSlice_0 rfl ?_
  refine tr_getN dX12_isSlice_1 fl12_385 (hK 183 12 (by decide) kd_183) (hR 183 3 none (by decide +kernel) (by decide +kernel)) ?_
  refine tr_ifnullN 26 dX12_isSlice_4 (by decide) ?_
  refine tr_iconst (v := 0) dX12_isSlice_26 (by decide +kernel) ?_
  refine tr_zret zX175 dX12_isSlice_27 rfl (Or.inl rfl) (by decide) (by decide) ⟨_, rfl, ?_⟩
  refine tr_if_ne 19 dX12_fits_10 (by decide) (fun h => absurd (by decide +kernel) h) (fun _ => ?_)
  refine tr_aload_n dX12_fits_13 rfl ?_
  refine tr_iconst (v := 1) dX12_fits_14 (by decide +kernel) ?_
  refine tr_inVi (M' := mX12_refused) (as := [_]) dX12_fits_15 lk12_76 inX12_refused seX12_refused myX12_refused (by decide) ⟨by decide, by decide⟩ rfl (hK 183 12 (by decide) kd_183) (Nat.le_of_ble_eq_true rfl) (by decide) (by decide) (Con.of (by decide +kernel) rfl (Nat.le_of_ble_eq_true rfl) rfl (fun X176 hX176 zX176 => ?_))
  refine tr_aload_n dX12_refused_0 rfl ?_
  refine tr_iload_n dX12_refused_1 rfl ?_
  refine tr_putI dX12_refused_2 fl12_73 (hK 183 12 (by decide) kd_183) (Or.inl rfl) ?_
  refine tr_aload_n dX12_refused_5 rfl ?_
  refine tr_iconst (v := (-1)) dX12_refused_6 (by decide +kernel) ?_
  refine tr_putI dX12_refused_7 fl12_9 (hK 183 12 (by decide) kd_183) (Or.inl rfl) ?_
  refine tr_iconst (v := (-1)) dX12_refused_10 (by decide +kernel) ?_
  refine tr_iret zX176 dX12_refused_11 rfl (by decide) (by decide) ⟨_, rfl, ?_⟩
  exact tr_iret zX174 dX12_fits_18 rfl (by decide) (by decide) rfl
set_option maxHeartbeats 4000000 in
set_option maxRecDepth 100000 in
theorem fX10_by (a : Int32) {l : Launch} {K N : Nat → Nat} {I : cz_I} {R : cz_R} {L : cz_L} (hf : cz_f1 K N I R) : Con l mX10_by [.ref 0, .int a] 203 K N I R L (fun r cn' K' N' I' R' _ => r = some (.int ((-1))) ∧ cn' = 203 ∧ K' = K ∧ N' = N ∧ ∀ k : Nat, 183 ≤ k → I' k = I k ∧ R' k = R k) := by
  obtain ⟨hK, hN, hR, hI⟩ := hf
  refine Con.of (by decide +kernel) rfl (Nat.le_of_ble_eq_true rfl) rfl (fun X177 hX177 zX177 => ?_)
  refine tr_aload_n dX10_by_0 rfl ?_
  refine tr_iload_n dX10_by_1 rfl ?_
  refine tr_inVi (M' := mX10_isSlice) (as := [_]) dX10_by_2 lk10_252 inX10_isSlice seX10_isSlice myX10_isSlice (by decide) ⟨by decide, by decide⟩ rfl (hK 0 10 (by decide) kd_0) (Nat.le_of_ble_eq_true rfl) (by decide) (by decide) (Con.of (by decide +kernel) rfl (Nat.le_of_ble_eq_true rfl) rfl (fun X178 hX178 zX178 => ?_))
  refine tr_iload_n dX10_isSlice_0 rfl ?_
  refine tr_if_lt 19 dX10_isSlice_1 (by decide) (fun q179 => ?_) (fun q179 => ?_)
  · skip
    refine tr_iconst (v := 0) dX10_isSlice_19 (by decide +kernel) ?_
    refine tr_zret zX178 dX10_isSlice_20 rfl (Or.inl rfl) (by decide) (by decide) ⟨_, rfl, ?_⟩
    refine tr_if_ne 14 dX10_by_5 (by decide) (fun h => absurd (by decide +kernel) h) (fun _ => ?_)
    refine tr_aload_n dX10_by_8 rfl ?_
    refine tr_iconst (v := 1) dX10_by_9 (by decide +kernel) ?_
    refine tr_inVi (M' := mX10_refused) (as := [_]) dX10_by_10 lk10_79 inX10_refused seX10_refused myX10_refused (by decide) ⟨by decide, by decide⟩ rfl (hK 0 10 (by decide) kd_0) (Nat.le_of_ble_eq_true rfl) (by decide) (by decide) (Con.of (by decide +kernel) rfl (Nat.le_of_ble_eq_true rfl) rfl (fun X180 hX180 zX180 => ?_))
    refine tr_aload_n dX10_refused_0 rfl ?_
    refine tr_iload_n dX10_refused_1 rfl ?_
    refine tr_putI dX10_refused_2 fl10_112 (hK 0 10 (by decide) kd_0) (Or.inl rfl) ?_
    refine tr_iconst (v := (-1)) dX10_refused_5 (by decide +kernel) ?_
    refine tr_iret zX180 dX10_refused_6 rfl (by decide) (by decide) ⟨_, rfl, ?_⟩
    exact tr_iret zX177 dX10_by_13 rfl (by decide) (by decide) ⟨rfl, rfl, rfl, rfl, fun k hk => ⟨by first | rfl | (repeat rw [cz_uIn (by omega)]), by first | rfl | (repeat rw [cz_uRn (by omega)])⟩⟩
  · skip
    refine tr_iload_n dX10_isSlice_4 rfl ?_
    refine tr_aload_n dX10_isSlice_5 rfl ?_
    refine tr_getR (x := 2) dX10_isSlice_6 fl10_16 (hK 0 10 (by decide) kd_0) (hR 0 2 (some 2) (by decide +kernel) rf_0_2) ?_
    refine tr_getI dX10_isSlice_9 fl10_338 (hK 2 0 (by decide) kd_2) ?_
    refine tr_topi 0 (hI 2 13 (by decide +kernel)) ?_
    refine tr_icmp_ge 19 dX10_isSlice_12 (by decide) (fun q181 => ?_) (fun q181 => ?_)
    · skip
      refine tr_iconst (v := 0) dX10_isSlice_19 (by decide +kernel) ?_
      refine tr_zret zX178 dX10_isSlice_20 rfl (Or.inl rfl) (by decide) (by decide) ⟨_, rfl, ?_⟩
      refine tr_if_ne 14 dX10_by_5 (by decide) (fun h => absurd (by decide +kernel) h) (fun _ => ?_)
      refine tr_aload_n dX10_by_8 rfl ?_
      refine tr_iconst (v := 1) dX10_by_9 (by decide +kernel) ?_
      refine tr_inVi (M' := mX10_refused) (as := [_]) dX10_by_10 lk10_79 inX10_refused seX10_refused myX10_refused (by decide) ⟨by decide, by decide⟩ rfl (hK 0 10 (by decide) kd_0) (Nat.le_of_ble_eq_true rfl) (by decide) (by decide) (Con.of (by decide +kernel) rfl (Nat.le_of_ble_eq_true rfl) rfl (fun X182 hX182 zX182 => ?_))
      refine tr_aload_n dX10_refused_0 rfl ?_
      refine tr_iload_n dX10_refused_1 rfl ?_
      refine tr_putI dX10_refused_2 fl10_112 (hK 0 10 (by decide) kd_0) (Or.inl rfl) ?_
      refine tr_iconst (v := (-1)) dX10_refused_5 (by decide +kernel) ?_
      refine tr_iret zX182 dX10_refused_6 rfl (by decide) (by decide) ⟨_, rfl, ?_⟩
      exact tr_iret zX177 dX10_by_13 rfl (by decide) (by decide) ⟨rfl, rfl, rfl, rfl, fun k hk => ⟨by first | rfl | (repeat rw [cz_uIn (by omega)]), by first | rfl | (repeat rw [cz_uRn (by omega)])⟩⟩
    · skip
      exfalso
      have e0 : ((0 : Int32)).toInt = 0 := by decide +kernel
      simp only [Int32.lt_iff_toInt_lt, Int32.le_iff_toInt_le, ← Int32.toInt_inj] at q181
      simp only [Int32.lt_iff_toInt_lt, Int32.le_iff_toInt_le, ← Int32.toInt_inj] at q179
      omega
set_option maxHeartbeats 4000000 in
set_option maxRecDepth 100000 in
theorem fX12_by (a : Int32) {l : Launch} {K N : Nat → Nat} {I : cz_I} {R : cz_R} {L : cz_L} (hf : cz_f2 K N I R) : Con l mX12_by [.ref 183, .int a] 203 K N I R L (fun r _ _ _ _ _ _ => r = some (.int ((-1)))) := by
  obtain ⟨hK, hN, hR, hI, hI2⟩ := hf
  refine Con.of (by decide +kernel) rfl (Nat.le_of_ble_eq_true rfl) rfl (fun X183 hX183 zX183 => ?_)
  refine tr_aload_n dX12_by_0 rfl ?_
  refine tr_iconst (v := 0) dX12_by_1 (by decide +kernel) ?_
  refine tr_putI dX12_by_2 fl12_70 (hK 183 12 (by decide) kd_183) (Or.inl rfl) ?_
  refine tr_aload_n dX12_by_5 rfl ?_
  refine tr_iload_n dX12_by_6 rfl ?_
  refine tr_inVi (M' := mX12_isSlice) (as := [_]) dX12_by_7 lk12_485 inX12_isSlice seX12_isSlice myX12_isSlice (by decide) ⟨by decide, by decide⟩ rfl (hK 183 12 (by decide) kd_183) (Nat.le_of_ble_eq_true rfl) (by decide) (by decide) (Con.of (by decide +kernel) rfl (Nat.le_of_ble_eq_true rfl) rfl (fun X184 hX184 zX184 => ?_))
  refine tr_aload_n dX12_isSlice_0 rfl ?_
  refine tr_getN dX12_isSlice_1 fl12_385 (hK 183 12 (by decide) kd_183) (hR 183 3 none (by decide +kernel) (by decide +kernel)) ?_
  refine tr_ifnullN 26 dX12_isSlice_4 (by decide) ?_
  refine tr_iconst (v := 0) dX12_isSlice_26 (by decide +kernel) ?_
  refine tr_zret zX184 dX12_isSlice_27 rfl (Or.inl rfl) (by decide) (by decide) ⟨_, rfl, ?_⟩
  refine tr_if_ne 19 dX12_by_10 (by decide) (fun h => absurd (by decide +kernel) h) (fun _ => ?_)
  refine tr_aload_n dX12_by_13 rfl ?_
  refine tr_iconst (v := 1) dX12_by_14 (by decide +kernel) ?_
  refine tr_inVi (M' := mX12_refused) (as := [_]) dX12_by_15 lk12_76 inX12_refused seX12_refused myX12_refused (by decide) ⟨by decide, by decide⟩ rfl (hK 183 12 (by decide) kd_183) (Nat.le_of_ble_eq_true rfl) (by decide) (by decide) (Con.of (by decide +kernel) rfl (Nat.le_of_ble_eq_true rfl) rfl (fun X185 hX185 zX185 => ?_))
  refine tr_aload_n dX12_refused_0 rfl ?_
  refine tr_iload_n dX12_refused_1 rfl ?_
  refine tr_putI dX12_refused_2 fl12_73 (hK 183 12 (by decide) kd_183) (Or.inl rfl) ?_
  refine tr_aload_n dX12_refused_5 rfl ?_
  refine tr_iconst (v := (-1)) dX12_refused_6 (by decide +kernel) ?_
  refine tr_putI dX12_refused_7 fl12_9 (hK 183 12 (by decide) kd_183) (Or.inl rfl) ?_
  refine tr_iconst (v := (-1)) dX12_refused_10 (by decide +kernel) ?_
  refine tr_iret zX185 dX12_refused_11 rfl (by decide) (by decide) ⟨_, rfl, ?_⟩
  exact tr_iret zX183 dX12_by_18 rfl (by decide) (by decide) rfl
set_option maxHeartbeats 4000000 in
set_option maxRecDepth 100000 in
theorem fX10_nights (a b c : Int32) {l : Launch} {K N : Nat → Nat} {I : cz_I} {R : cz_R} {L : cz_L} (hf : cz_f1 K N I R) : Con l mX10_nights [.ref 0, .int a, .int b, .int c] 203 K N I R L (fun r cn' K' N' I' R' _ => r = some (.int ((-100000))) ∧ cn' = 203 ∧ K' = K ∧ N' = N ∧ ∀ k : Nat, 183 ≤ k → I' k = I k ∧ R' k = R k) := by
  obtain ⟨hK, hN, hR, hI⟩ := hf
  refine Con.of (by decide +kernel) rfl (Nat.le_of_ble_eq_true rfl) rfl (fun X186 hX186 zX186 => ?_)
  refine tr_aload_n dX10_nights_0 rfl ?_
  refine tr_getZ dX10_nights_1 fl10_95 (hK 0 10 (by decide) kd_0) ?_
  refine tr_topi 0 (hI 0 5 (by decide +kernel)) ?_
  refine tr_if_ne 13 dX10_nights_4 (by decide) (fun h => absurd (by decide +kernel) h) (fun _ => ?_)
  refine tr_aload_n dX10_nights_7 rfl ?_
  refine tr_iconst (v := 1) dX10_nights_8 (by decide +kernel) ?_
  refine tr_inVi (M' := mX10_refusedTotal) (as := [_]) dX10_nights_9 lk10_178 inX10_refusedTotal seX10_refusedTotal myX10_refusedTotal (by decide) ⟨by decide, by decide⟩ rfl (hK 0 10 (by decide) kd_0) (Nat.le_of_ble_eq_true rfl) (by decide) (by decide) (Con.of (by decide +kernel) rfl (Nat.le_of_ble_eq_true rfl) rfl (fun X187 hX187 zX187 => ?_))
  refine tr_aload_n dX10_refusedTotal_0 rfl ?_
  refine tr_iload_n dX10_refusedTotal_1 rfl ?_
  refine tr_putI dX10_refusedTotal_2 fl10_112 (hK 0 10 (by decide) kd_0) (Or.inl rfl) ?_
  refine tr_ldcw dX10_refusedTotal_5 ld10_356 ?_
  refine tr_iret zX187 dX10_refusedTotal_8 rfl (by decide) (by decide) ⟨_, rfl, ?_⟩
  exact tr_iret zX186 dX10_nights_12 rfl (by decide) (by decide) ⟨rfl, rfl, rfl, rfl, fun k hk => ⟨by first | rfl | (repeat rw [cz_uIn (by omega)]), by first | rfl | (repeat rw [cz_uRn (by omega)])⟩⟩
set_option maxHeartbeats 4000000 in
set_option maxRecDepth 100000 in
theorem fX12_nights (a b c : Int32) {l : Launch} {K N : Nat → Nat} {I : cz_I} {R : cz_R} {L : cz_L} (hf : cz_f2 K N I R) : Con l mX12_nights [.ref 183, .int a, .int b, .int c] 203 K N I R L (fun r _ _ _ _ _ _ => r = some (.int ((-100000)))) := by
  obtain ⟨hK, hN, hR, hI, hI2⟩ := hf
  refine Con.of (by decide +kernel) rfl (Nat.le_of_ble_eq_true rfl) rfl (fun X188 hX188 zX188 => ?_)
  refine tr_aload_n dX12_nights_0 rfl ?_
  refine tr_iconst (v := 0) dX12_nights_1 (by decide +kernel) ?_
  refine tr_putI dX12_nights_2 fl12_70 (hK 183 12 (by decide) kd_183) (Or.inl rfl) ?_
  refine tr_aload_n dX12_nights_5 rfl ?_
  refine tr_getN dX12_nights_6 fl12_385 (hK 183 12 (by decide) kd_183) (hR 183 3 none (by decide +kernel) (by decide +kernel)) ?_
  refine tr_ifnonnullN dX12_nights_9 ?_
  refine tr_aload_n dX12_nights_12 rfl ?_
  refine tr_iconst (v := 1) dX12_nights_13 (by decide +kernel) ?_
  refine tr_inVi (M' := mX12_lost) (as := [_]) dX12_nights_14 lk12_458 inX12_lost seX12_lost myX12_lost (by decide) ⟨by decide, by decide⟩ rfl (hK 183 12 (by decide) kd_183) (Nat.le_of_ble_eq_true rfl) (by decide) (by decide) (Con.of (by decide +kernel) rfl (Nat.le_of_ble_eq_true rfl) rfl (fun X189 hX189 zX189 => ?_))
  refine tr_aload_n dX12_lost_0 rfl ?_
  refine tr_iload_n dX12_lost_1 rfl ?_
  refine tr_inVi (M' := mX12_refused) (as := [_]) dX12_lost_2 lk12_76 inX12_refused seX12_refused myX12_refused (by decide) ⟨by decide, by decide⟩ rfl (hK 183 12 (by decide) kd_183) (Nat.le_of_ble_eq_true rfl) (by decide) (by decide) (Con.of (by decide +kernel) rfl (Nat.le_of_ble_eq_true rfl) rfl (fun X190 hX190 zX190 => ?_))
  refine tr_aload_n dX12_refused_0 rfl ?_
  refine tr_iload_n dX12_refused_1 rfl ?_
  refine tr_putI dX12_refused_2 fl12_73 (hK 183 12 (by decide) kd_183) (Or.inl rfl) ?_
  refine tr_aload_n dX12_refused_5 rfl ?_
  refine tr_iconst (v := (-1)) dX12_refused_6 (by decide +kernel) ?_
  refine tr_putI dX12_refused_7 fl12_9 (hK 183 12 (by decide) kd_183) (Or.inl rfl) ?_
  refine tr_iconst (v := (-1)) dX12_refused_10 (by decide +kernel) ?_
  refine tr_iret zX190 dX12_refused_11 rfl (by decide) (by decide) ⟨_, rfl, ?_⟩
  refine tr_pop dX12_lost_5 rfl ?_
  refine tr_ldc dX12_lost_6 ld12_80 ?_
  refine tr_iret zX189 dX12_lost_8 rfl (by decide) (by decide) ⟨_, rfl, ?_⟩
  exact tr_iret zX188 dX12_nights_17 rfl (by decide) (by decide) rfl
set_option maxHeartbeats 4000000 in
set_option maxRecDepth 100000 in
theorem fX10_call (a b : Int32) {l : Launch} {K N : Nat → Nat} {I : cz_I} {R : cz_R} {L : cz_L} (hf : cz_f1 K N I R) : Con l mX10_call [.ref 0, .int a, .int b] 203 K N I R L (fun r cn' K' N' I' R' _ => r = some (.int (0)) ∧ cn' = 203 ∧ K' = K ∧ N' = N ∧ ∀ k : Nat, 183 ≤ k → I' k = I k ∧ R' k = R k) := by
  obtain ⟨hK, hN, hR, hI⟩ := hf
  refine Con.of (by decide +kernel) rfl (Nat.le_of_ble_eq_true rfl) rfl (fun X191 hX191 zX191 => ?_)
  refine tr_iload_n dX10_call_0 rfl ?_
  refine tr_if_lt 15 dX10_call_1 (by decide) (fun q192 => ?_) (fun q192 => ?_)
  · skip
    refine tr_aload_n dX10_call_15 rfl ?_
    refine tr_iconst (v := 1) dX10_call_16 (by decide +kernel) ?_
    refine tr_inVi (M' := mX10_refusedAct) (as := [_]) dX10_call_17 lk10_281 inX10_refusedAct seX10_refusedAct myX10_refusedAct (by decide) ⟨by decide, by decide⟩ rfl (hK 0 10 (by decide) kd_0) (Nat.le_of_ble_eq_true rfl) (by decide) (by decide) (Con.of (by decide +kernel) rfl (Nat.le_of_ble_eq_true rfl) rfl (fun X193 hX193 zX193 => ?_))
    refine tr_aload_n dX10_refusedAct_0 rfl ?_
    refine tr_iload_n dX10_refusedAct_1 rfl ?_
    refine tr_putI dX10_refusedAct_2 fl10_112 (hK 0 10 (by decide) kd_0) (Or.inl rfl) ?_
    refine tr_iconst (v := 0) dX10_refusedAct_5 (by decide +kernel) ?_
    refine tr_zret zX193 dX10_refusedAct_6 rfl (Or.inl rfl) (by decide) (by decide) ⟨_, rfl, ?_⟩
    exact tr_zret zX191 dX10_call_20 rfl (Or.inl rfl) (by decide) (by decide) ⟨rfl, rfl, rfl, rfl, fun k hk => ⟨by first | rfl | (repeat rw [cz_uIn (by omega)]), by first | rfl | (repeat rw [cz_uRn (by omega)])⟩⟩
  · skip
    refine tr_iload_n dX10_call_4 rfl ?_
    refine tr_aload_n dX10_call_5 rfl ?_
    refine tr_getR (x := 2) dX10_call_6 fl10_16 (hK 0 10 (by decide) kd_0) (hR 0 2 (some 2) (by decide +kernel) rf_0_2) ?_
    refine tr_getI dX10_call_9 fl10_278 (hK 2 0 (by decide) kd_2) ?_
    refine tr_topi 0 (hI 2 11 (by decide +kernel)) ?_
    refine tr_icmp_lt 21 dX10_call_12 (by decide) (fun q194 => ?_) (fun q194 => ?_)
    · skip
      exfalso
      have e0 : ((0 : Int32)).toInt = 0 := by decide +kernel
      simp only [Int32.lt_iff_toInt_lt, Int32.le_iff_toInt_le, ← Int32.toInt_inj] at q194
      simp only [Int32.lt_iff_toInt_lt, Int32.le_iff_toInt_le, ← Int32.toInt_inj] at q192
      omega
    · skip
      refine tr_aload_n dX10_call_15 rfl ?_
      refine tr_iconst (v := 1) dX10_call_16 (by decide +kernel) ?_
      refine tr_inVi (M' := mX10_refusedAct) (as := [_]) dX10_call_17 lk10_281 inX10_refusedAct seX10_refusedAct myX10_refusedAct (by decide) ⟨by decide, by decide⟩ rfl (hK 0 10 (by decide) kd_0) (Nat.le_of_ble_eq_true rfl) (by decide) (by decide) (Con.of (by decide +kernel) rfl (Nat.le_of_ble_eq_true rfl) rfl (fun X195 hX195 zX195 => ?_))
      refine tr_aload_n dX10_refusedAct_0 rfl ?_
      refine tr_iload_n dX10_refusedAct_1 rfl ?_
      refine tr_putI dX10_refusedAct_2 fl10_112 (hK 0 10 (by decide) kd_0) (Or.inl rfl) ?_
      refine tr_iconst (v := 0) dX10_refusedAct_5 (by decide +kernel) ?_
      refine tr_zret zX195 dX10_refusedAct_6 rfl (Or.inl rfl) (by decide) (by decide) ⟨_, rfl, ?_⟩
      exact tr_zret zX191 dX10_call_20 rfl (Or.inl rfl) (by decide) (by decide) ⟨rfl, rfl, rfl, rfl, fun k hk => ⟨by first | rfl | (repeat rw [cz_uIn (by omega)]), by first | rfl | (repeat rw [cz_uRn (by omega)])⟩⟩
set_option maxHeartbeats 4000000 in
set_option maxRecDepth 100000 in
theorem fX12_call (a b : Int32) {l : Launch} {K N : Nat → Nat} {I : cz_I} {R : cz_R} {L : cz_L} (hf : cz_f2 K N I R) : Con l mX12_call [.ref 183, .int a, .int b] 203 K N I R L (fun r _ _ _ _ _ _ => r = some (.int (0))) := by
  obtain ⟨hK, hN, hR, hI, hI2⟩ := hf
  refine Con.of (by decide +kernel) rfl (Nat.le_of_ble_eq_true rfl) rfl (fun X196 hX196 zX196 => ?_)
  refine tr_aload_n dX12_call_0 rfl ?_
  refine tr_iconst (v := 0) dX12_call_1 (by decide +kernel) ?_
  refine tr_putI dX12_call_2 fl12_70 (hK 183 12 (by decide) kd_183) (Or.inl rfl) ?_
  refine tr_aload_n dX12_call_5 rfl ?_
  refine tr_getN dX12_call_6 fl12_385 (hK 183 12 (by decide) kd_183) (hR 183 3 none (by decide +kernel) (by decide +kernel)) ?_
  refine tr_ifnullN 27 dX12_call_9 (by decide) ?_
  refine tr_aload_n dX12_call_27 rfl ?_
  refine tr_iconst (v := 1) dX12_call_28 (by decide +kernel) ?_
  refine tr_inVi (M' := mX12_denied) (as := [_]) dX12_call_29 lk12_507 inX12_denied seX12_denied myX12_denied (by decide) ⟨by decide, by decide⟩ rfl (hK 183 12 (by decide) kd_183) (Nat.le_of_ble_eq_true rfl) (by decide) (by decide) (Con.of (by decide +kernel) rfl (Nat.le_of_ble_eq_true rfl) rfl (fun X197 hX197 zX197 => ?_))
  refine tr_aload_n dX12_denied_0 rfl ?_
  refine tr_iload_n dX12_denied_1 rfl ?_
  refine tr_inVi (M' := mX12_refused) (as := [_]) dX12_denied_2 lk12_76 inX12_refused seX12_refused myX12_refused (by decide) ⟨by decide, by decide⟩ rfl (hK 183 12 (by decide) kd_183) (Nat.le_of_ble_eq_true rfl) (by decide) (by decide) (Con.of (by decide +kernel) rfl (Nat.le_of_ble_eq_true rfl) rfl (fun X198 hX198 zX198 => ?_))
  refine tr_aload_n dX12_refused_0 rfl ?_
  refine tr_iload_n dX12_refused_1 rfl ?_
  refine tr_putI dX12_refused_2 fl12_73 (hK 183 12 (by decide) kd_183) (Or.inl rfl) ?_
  refine tr_aload_n dX12_refused_5 rfl ?_
  refine tr_iconst (v := (-1)) dX12_refused_6 (by decide +kernel) ?_
  refine tr_putI dX12_refused_7 fl12_9 (hK 183 12 (by decide) kd_183) (Or.inl rfl) ?_
  refine tr_iconst (v := (-1)) dX12_refused_10 (by decide +kernel) ?_
  refine tr_iret zX198 dX12_refused_11 rfl (by decide) (by decide) ⟨_, rfl, ?_⟩
  refine tr_pop dX12_denied_5 rfl ?_
  refine tr_iconst (v := 0) dX12_denied_6 (by decide +kernel) ?_
  refine tr_zret zX197 dX12_denied_7 rfl (Or.inl rfl) (by decide) (by decide) ⟨_, rfl, ?_⟩
  exact tr_zret zX196 dX12_call_32 rfl (Or.inl rfl) (by decide) (by decide) rfl
set_option maxHeartbeats 4000000 in
set_option maxRecDepth 100000 in
theorem fX10_calls {l : Launch} {K N : Nat → Nat} {I : cz_I} {R : cz_R} {L : cz_L} (hf : cz_f1 K N I R) : Con l mX10_calls [.ref 0] 203 K N I R L (fun r cn' K' N' I' R' _ => r = some (.int ((-1))) ∧ cn' = 203 ∧ K' = K ∧ N' = N ∧ ∀ k : Nat, 183 ≤ k → I' k = I k ∧ R' k = R k) := by
  obtain ⟨hK, hN, hR, hI⟩ := hf
  refine Con.of (by decide +kernel) rfl (Nat.le_of_ble_eq_true rfl) rfl (fun X199 hX199 zX199 => ?_)
  refine tr_aload_n dX10_calls_0 rfl ?_
  refine tr_getZ dX10_calls_1 fl10_95 (hK 0 10 (by decide) kd_0) ?_
  refine tr_topi 0 (hI 0 5 (by decide +kernel)) ?_
  refine tr_if_eq 21 dX10_calls_4 (by decide) (fun _ => ?_) (fun h => absurd (by decide +kernel) h)
  refine tr_aload_n dX10_calls_21 rfl ?_
  refine tr_iconst (v := 1) dX10_calls_22 (by decide +kernel) ?_
  refine tr_inVi (M' := mX10_refused) (as := [_]) dX10_calls_23 lk10_79 inX10_refused seX10_refused myX10_refused (by decide) ⟨by decide, by decide⟩ rfl (hK 0 10 (by decide) kd_0) (Nat.le_of_ble_eq_true rfl) (by decide) (by decide) (Con.of (by decide +kernel) rfl (Nat.le_of_ble_eq_true rfl) rfl (fun X200 hX200 zX200 => ?_))
  refine tr_aload_n dX10_refused_0 rfl ?_
  refine tr_iload_n dX10_refused_1 rfl ?_
  refine tr_putI dX10_refused_2 fl10_112 (hK 0 10 (by decide) kd_0) (Or.inl rfl) ?_
  refine tr_iconst (v := (-1)) dX10_refused_5 (by decide +kernel) ?_
  refine tr_iret zX200 dX10_refused_6 rfl (by decide) (by decide) ⟨_, rfl, ?_⟩
  exact tr_iret zX199 dX10_calls_26 rfl (by decide) (by decide) ⟨rfl, rfl, rfl, rfl, fun k hk => ⟨by first | rfl | (repeat rw [cz_uIn (by omega)]), by first | rfl | (repeat rw [cz_uRn (by omega)])⟩⟩
set_option maxHeartbeats 4000000 in
set_option maxRecDepth 100000 in
theorem fX12_calls {l : Launch} {K N : Nat → Nat} {I : cz_I} {R : cz_R} {L : cz_L} (hf : cz_f2 K N I R) : Con l mX12_calls [.ref 183] 203 K N I R L (fun r _ _ _ _ _ _ => r = some (.int ((-1)))) := by
  obtain ⟨hK, hN, hR, hI, hI2⟩ := hf
  refine Con.of (by decide +kernel) rfl (Nat.le_of_ble_eq_true rfl) rfl (fun X201 hX201 zX201 => ?_)
  refine tr_aload_n dX12_calls_0 rfl ?_
  refine tr_iconst (v := 0) dX12_calls_1 (by decide +kernel) ?_
  refine tr_putI dX12_calls_2 fl12_70 (hK 183 12 (by decide) kd_183) (Or.inl rfl) ?_
  refine tr_aload_n dX12_calls_5 rfl ?_
  refine tr_getN dX12_calls_6 fl12_385 (hK 183 12 (by decide) kd_183) (hR 183 3 none (by decide +kernel) (by decide +kernel)) ?_
  refine tr_ifnonnullN dX12_calls_9 ?_
  refine tr_aload_n dX12_calls_12 rfl ?_
  refine tr_iconst (v := 1) dX12_calls_13 (by decide +kernel) ?_
  refine tr_inVi (M' := mX12_refused) (as := [_]) dX12_calls_14 lk12_76 inX12_refused seX12_refused myX12_refused (by decide) ⟨by decide, by decide⟩ rfl (hK 183 12 (by decide) kd_183) (Nat.le_of_ble_eq_true rfl) (by decide) (by decide) (Con.of (by decide +kernel) rfl (Nat.le_of_ble_eq_true rfl) rfl (fun X202 hX202 zX202 => ?_))
  refine tr_aload_n dX12_refused_0 rfl ?_
  refine tr_iload_n dX12_refused_1 rfl ?_
  refine tr_putI dX12_refused_2 fl12_73 (hK 183 12 (by decide) kd_183) (Or.inl rfl) ?_
  refine tr_aload_n dX12_refused_5 rfl ?_
  refine tr_iconst (v := (-1)) dX12_refused_6 (by decide +kernel) ?_
  refine tr_putI dX12_refused_7 fl12_9 (hK 183 12 (by decide) kd_183) (Or.inl rfl) ?_
  refine tr_iconst (v := (-1)) dX12_refused_10 (by decide +kernel) ?_
  refine tr_iret zX202 dX12_refused_11 rfl (by decide) (by decide) ⟨_, rfl, ?_⟩
  refine tr_goto 30 dX12_calls_17 (by decide) ?_
  exact tr_iret zX201 dX12_calls_30 rfl (by decide) (by decide) rfl
set_option maxHeartbeats 4000000 in
set_option maxRecDepth 100000 in
theorem fX10_cloud (a b : Int32) {l : Launch} {K N : Nat → Nat} {I : cz_I} {R : cz_R} {L : cz_L} (hf : cz_f1 K N I R) : Con l mX10_cloud [.ref 0, .int a, .int b] 203 K N I R L (fun r cn' K' N' I' R' _ => r = some (.int (0)) ∧ cn' = 203 ∧ K' = K ∧ N' = N ∧ ∀ k : Nat, 183 ≤ k → I' k = I k ∧ R' k = R k) := by
  obtain ⟨hK, hN, hR, hI⟩ := hf
  refine Con.of (by decide +kernel) rfl (Nat.le_of_ble_eq_true rfl) rfl (fun X203 hX203 zX203 => ?_)
  refine tr_aload_n dX10_cloud_0 rfl ?_
  refine tr_getZ dX10_cloud_1 fl10_95 (hK 0 10 (by decide) kd_0) ?_
  refine tr_topi 0 (hI 0 5 (by decide +kernel)) ?_
  refine tr_if_ne 13 dX10_cloud_4 (by decide) (fun h => absurd (by decide +kernel) h) (fun _ => ?_)
  refine tr_aload_n dX10_cloud_7 rfl ?_
  refine tr_iconst (v := 1) dX10_cloud_8 (by decide +kernel) ?_
  refine tr_inVi (M' := mX10_refusedAct) (as := [_]) dX10_cloud_9 lk10_281 inX10_refusedAct seX10_refusedAct myX10_refusedAct (by decide) ⟨by decide, by decide⟩ rfl (hK 0 10 (by decide) kd_0) (Nat.le_of_ble_eq_true rfl) (by decide) (by decide) (Con.of (by decide +kernel) rfl (Nat.le_of_ble_eq_true rfl) rfl (fun X204 hX204 zX204 => ?_))
  refine tr_aload_n dX10_refusedAct_0 rfl ?_
  refine tr_iload_n dX10_refusedAct_1 rfl ?_
  refine tr_putI dX10_refusedAct_2 fl10_112 (hK 0 10 (by decide) kd_0) (Or.inl rfl) ?_
  refine tr_iconst (v := 0) dX10_refusedAct_5 (by decide +kernel) ?_
  refine tr_zret zX204 dX10_refusedAct_6 rfl (Or.inl rfl) (by decide) (by decide) ⟨_, rfl, ?_⟩
  exact tr_zret zX203 dX10_cloud_12 rfl (Or.inl rfl) (by decide) (by decide) ⟨rfl, rfl, rfl, rfl, fun k hk => ⟨by first | rfl | (repeat rw [cz_uIn (by omega)]), by first | rfl | (repeat rw [cz_uRn (by omega)])⟩⟩
set_option maxHeartbeats 4000000 in
set_option maxRecDepth 100000 in
theorem fX12_cloud (a b : Int32) {l : Launch} {K N : Nat → Nat} {I : cz_I} {R : cz_R} {L : cz_L} (hf : cz_f2 K N I R) : Con l mX12_cloud [.ref 183, .int a, .int b] 203 K N I R L (fun r _ _ _ _ _ _ => r = some (.int (0))) := by
  obtain ⟨hK, hN, hR, hI, hI2⟩ := hf
  refine Con.of (by decide +kernel) rfl (Nat.le_of_ble_eq_true rfl) rfl (fun X205 hX205 zX205 => ?_)
  refine tr_aload_n dX12_cloud_0 rfl ?_
  refine tr_iconst (v := 0) dX12_cloud_1 (by decide +kernel) ?_
  refine tr_putI dX12_cloud_2 fl12_70 (hK 183 12 (by decide) kd_183) (Or.inl rfl) ?_
  refine tr_aload_n dX12_cloud_5 rfl ?_
  refine tr_getN dX12_cloud_6 fl12_385 (hK 183 12 (by decide) kd_183) (hR 183 3 none (by decide +kernel) (by decide +kernel)) ?_
  refine tr_ifnonnullN dX12_cloud_9 ?_
  refine tr_aload_n dX12_cloud_12 rfl ?_
  refine tr_iconst (v := 1) dX12_cloud_13 (by decide +kernel) ?_
  refine tr_inVi (M' := mX12_denied) (as := [_]) dX12_cloud_14 lk12_507 inX12_denied seX12_denied myX12_denied (by decide) ⟨by decide, by decide⟩ rfl (hK 183 12 (by decide) kd_183) (Nat.le_of_ble_eq_true rfl) (by decide) (by decide) (Con.of (by decide +kernel) rfl (Nat.le_of_ble_eq_true rfl) rfl (fun X206 hX206 zX206 => ?_))
  refine tr_aload_n dX12_denied_0 rfl ?_
  refine tr_iload_n dX12_denied_1 rfl ?_
  refine tr_inVi (M' := mX12_refused) (as := [_]) dX12_denied_2 lk12_76 inX12_refused seX12_refused myX12_refused (by decide) ⟨by decide, by decide⟩ rfl (hK 183 12 (by decide) kd_183) (Nat.le_of_ble_eq_true rfl) (by decide) (by decide) (Con.of (by decide +kernel) rfl (Nat.le_of_ble_eq_true rfl) rfl (fun X207 hX207 zX207 => ?_))
  refine tr_aload_n dX12_refused_0 rfl ?_
  refine tr_iload_n dX12_refused_1 rfl ?_
  refine tr_putI dX12_refused_2 fl12_73 (hK 183 12 (by decide) kd_183) (Or.inl rfl) ?_
  refine tr_aload_n dX12_refused_5 rfl ?_
  refine tr_iconst (v := (-1)) dX12_refused_6 (by decide +kernel) ?_
  refine tr_putI dX12_refused_7 fl12_9 (hK 183 12 (by decide) kd_183) (Or.inl rfl) ?_
  refine tr_iconst (v := (-1)) dX12_refused_10 (by decide +kernel) ?_
  refine tr_iret zX207 dX12_refused_11 rfl (by decide) (by decide) ⟨_, rfl, ?_⟩
  refine tr_pop dX12_denied_5 rfl ?_
  refine tr_iconst (v := 0) dX12_denied_6 (by decide +kernel) ?_
  refine tr_zret zX206 dX12_denied_7 rfl (Or.inl rfl) (by decide) (by decide) ⟨_, rfl, ?_⟩
  exact tr_zret zX205 dX12_cloud_17 rfl (Or.inl rfl) (by decide) (by decide) rfl
set_option maxHeartbeats 4000000 in
set_option maxRecDepth 100000 in
theorem fX10_draw {l : Launch} {K N : Nat → Nat} {I : cz_I} {R : cz_R} {L : cz_L} (hf : cz_f1 K N I R) : Con l mX10_draw [.ref 0] 203 K N I R L (fun r cn' K' N' I' R' _ => r = some (.int ((-1))) ∧ cn' = 203 ∧ K' = K ∧ N' = N ∧ ∀ k : Nat, 183 ≤ k → I' k = I k ∧ R' k = R k) := by
  obtain ⟨hK, hN, hR, hI⟩ := hf
  refine Con.of (by decide +kernel) rfl (Nat.le_of_ble_eq_true rfl) rfl (fun X208 hX208 zX208 => ?_)
  refine tr_aload_n dX10_draw_0 rfl ?_
  refine tr_getZ dX10_draw_1 fl10_95 (hK 0 10 (by decide) kd_0) ?_
  refine tr_topi 0 (hI 0 5 (by decide +kernel)) ?_
  refine tr_if_ne 13 dX10_draw_4 (by decide) (fun h => absurd (by decide +kernel) h) (fun _ => ?_)
  refine tr_aload_n dX10_draw_7 rfl ?_
  refine tr_iconst (v := 1) dX10_draw_8 (by decide +kernel) ?_
  refine tr_inVi (M' := mX10_refused) (as := [_]) dX10_draw_9 lk10_79 inX10_refused seX10_refused myX10_refused (by decide) ⟨by decide, by decide⟩ rfl (hK 0 10 (by decide) kd_0) (Nat.le_of_ble_eq_true rfl) (by decide) (by decide) (Con.of (by decide +kernel) rfl (Nat.le_of_ble_eq_true rfl) rfl (fun X209 hX209 zX209 => ?_))
  refine tr_aload_n dX10_refused_0 rfl ?_
  refine tr_iload_n dX10_refused_1 rfl ?_
  refine tr_putI dX10_refused_2 fl10_112 (hK 0 10 (by decide) kd_0) (Or.inl rfl) ?_
  refine tr_iconst (v := (-1)) dX10_refused_5 (by decide +kernel) ?_
  refine tr_iret zX209 dX10_refused_6 rfl (by decide) (by decide) ⟨_, rfl, ?_⟩
  exact tr_iret zX208 dX10_draw_12 rfl (by decide) (by decide) ⟨rfl, rfl, rfl, rfl, fun k hk => ⟨by first | rfl | (repeat rw [cz_uIn (by omega)]), by first | rfl | (repeat rw [cz_uRn (by omega)])⟩⟩
set_option maxHeartbeats 4000000 in
set_option maxRecDepth 100000 in
theorem fX12_draw {l : Launch} {K N : Nat → Nat} {I : cz_I} {R : cz_R} {L : cz_L} (hf : cz_f2 K N I R) : Con l mX12_draw [.ref 183] 203 K N I R L (fun r _ _ _ _ _ _ => r = some (.int ((-1)))) := by
  obtain ⟨hK, hN, hR, hI, hI2⟩ := hf
  refine Con.of (by decide +kernel) rfl (Nat.le_of_ble_eq_true rfl) rfl (fun X210 hX210 zX210 => ?_)
  refine tr_aload_n dX12_draw_0 rfl ?_
  refine tr_iconst (v := 0) dX12_draw_1 (by decide +kernel) ?_
  refine tr_putI dX12_draw_2 fl12_70 (hK 183 12 (by decide) kd_183) (Or.inl rfl) ?_
  refine tr_aload_n dX12_draw_5 rfl ?_
  refine tr_getN dX12_draw_6 fl12_385 (hK 183 12 (by decide) kd_183) (hR 183 3 none (by decide +kernel) (by decide +kernel)) ?_
  refine tr_ifnonnullN dX12_draw_9 ?_
  refine tr_aload_n dX12_draw_12 rfl ?_
  refine tr_iconst (v := 1) dX12_draw_13 (by decide +kernel) ?_
  refine tr_inVi (M' := mX12_refused) (as := [_]) dX12_draw_14 lk12_76 inX12_refused seX12_refused myX12_refused (by decide) ⟨by decide, by decide⟩ rfl (hK 183 12 (by decide) kd_183) (Nat.le_of_ble_eq_true rfl) (by decide) (by decide) (Con.of (by decide +kernel) rfl (Nat.le_of_ble_eq_true rfl) rfl (fun X211 hX211 zX211 => ?_))
  refine tr_aload_n dX12_refused_0 rfl ?_
  refine tr_iload_n dX12_refused_1 rfl ?_
  refine tr_putI dX12_refused_2 fl12_73 (hK 183 12 (by decide) kd_183) (Or.inl rfl) ?_
  refine tr_aload_n dX12_refused_5 rfl ?_
  refine tr_iconst (v := (-1)) dX12_refused_6 (by decide +kernel) ?_
  refine tr_putI dX12_refused_7 fl12_9 (hK 183 12 (by decide) kd_183) (Or.inl rfl) ?_
  refine tr_iconst (v := (-1)) dX12_refused_10 (by decide +kernel) ?_
  refine tr_iret zX211 dX12_refused_11 rfl (by decide) (by decide) ⟨_, rfl, ?_⟩
  exact tr_iret zX210 dX12_draw_17 rfl (by decide) (by decide) rfl
set_option maxHeartbeats 4000000 in
set_option maxRecDepth 100000 in
theorem fX10_lift {l : Launch} {K N : Nat → Nat} {I : cz_I} {R : cz_R} {L : cz_L} (hf : cz_f1 K N I R) : Con l mX10_lift [.ref 0] 203 K N I R L (fun r cn' K' N' I' R' _ => r = some (.int (0)) ∧ cn' = 203 ∧ K' = K ∧ N' = N ∧ ∀ k : Nat, 183 ≤ k → I' k = I k ∧ R' k = R k) := by
  obtain ⟨hK, hN, hR, hI⟩ := hf
  refine Con.of (by decide +kernel) rfl (Nat.le_of_ble_eq_true rfl) rfl (fun X212 hX212 zX212 => ?_)
  refine tr_aload_n dX10_lift_0 rfl ?_
  refine tr_getR (x := 89) dX10_lift_1 fl10_35 (hK 0 10 (by decide) kd_0) (hR 0 6 (some 89) (by decide +kernel) rf_0_6) ?_
  refine tr_getI dX10_lift_4 fl10_272 (hK 89 3 (by decide) kd_89) ?_
  refine tr_topi 0 (hI 89 2 (by decide +kernel)) ?_
  refine tr_if_ne 17 dX10_lift_7 (by decide) (fun h => absurd (by decide +kernel) h) (fun _ => ?_)
  refine tr_aload_n dX10_lift_10 rfl ?_
  refine tr_bipush (v := 6) dX10_lift_11 (by decide +kernel) ?_
  refine tr_inVi (M' := mX10_refusedAct) (as := [_]) dX10_lift_13 lk10_281 inX10_refusedAct seX10_refusedAct myX10_refusedAct (by decide) ⟨by decide, by decide⟩ rfl (hK 0 10 (by decide) kd_0) (Nat.le_of_ble_eq_true rfl) (by decide) (by decide) (Con.of (by decide +kernel) rfl (Nat.le_of_ble_eq_true rfl) rfl (fun X213 hX213 zX213 => ?_))
  refine tr_aload_n dX10_refusedAct_0 rfl ?_
  refine tr_iload_n dX10_refusedAct_1 rfl ?_
  refine tr_putI dX10_refusedAct_2 fl10_112 (hK 0 10 (by decide) kd_0) (Or.inl rfl) ?_
  refine tr_iconst (v := 0) dX10_refusedAct_5 (by decide +kernel) ?_
  refine tr_zret zX213 dX10_refusedAct_6 rfl (Or.inl rfl) (by decide) (by decide) ⟨_, rfl, ?_⟩
  exact tr_zret zX212 dX10_lift_16 rfl (Or.inl rfl) (by decide) (by decide) ⟨rfl, rfl, rfl, rfl, fun k hk => ⟨by first | rfl | (repeat rw [cz_uIn (by omega)]), by first | rfl | (repeat rw [cz_uRn (by omega)])⟩⟩
set_option maxHeartbeats 4000000 in
set_option maxRecDepth 100000 in
theorem fX12_lift {l : Launch} {K N : Nat → Nat} {I : cz_I} {R : cz_R} {L : cz_L} (hf : cz_f2 K N I R) : Con l mX12_lift [.ref 183] 203 K N I R L (fun r _ _ _ _ _ _ => r = some (.int (0))) := by
  obtain ⟨hK, hN, hR, hI, hI2⟩ := hf
  refine Con.of (by decide +kernel) rfl (Nat.le_of_ble_eq_true rfl) rfl (fun X214 hX214 zX214 => ?_)
  refine tr_aload_n dX12_lift_0 rfl ?_
  refine tr_iconst (v := 0) dX12_lift_1 (by decide +kernel) ?_
  refine tr_putI dX12_lift_2 fl12_70 (hK 183 12 (by decide) kd_183) (Or.inl rfl) ?_
  refine tr_aload_n dX12_lift_5 rfl ?_
  refine tr_getN dX12_lift_6 fl12_385 (hK 183 12 (by decide) kd_183) (hR 183 3 none (by decide +kernel) (by decide +kernel)) ?_
  refine tr_ifnullN 21 dX12_lift_9 (by decide) ?_
  refine tr_aload_n dX12_lift_21 rfl ?_
  refine tr_bipush (v := 6) dX12_lift_22 (by decide +kernel) ?_
  refine tr_inVi (M' := mX12_denied) (as := [_]) dX12_lift_24 lk12_507 inX12_denied seX12_denied myX12_denied (by decide) ⟨by decide, by decide⟩ rfl (hK 183 12 (by decide) kd_183) (Nat.le_of_ble_eq_true rfl) (by decide) (by decide) (Con.of (by decide +kernel) rfl (Nat.le_of_ble_eq_true rfl) rfl (fun X215 hX215 zX215 => ?_))
  refine tr_aload_n dX12_denied_0 rfl ?_
  refine tr_iload_n dX12_denied_1 rfl ?_
  refine tr_inVi (M' := mX12_refused) (as := [_]) dX12_denied_2 lk12_76 inX12_refused seX12_refused myX12_refused (by decide) ⟨by decide, by decide⟩ rfl (hK 183 12 (by decide) kd_183) (Nat.le_of_ble_eq_true rfl) (by decide) (by decide) (Con.of (by decide +kernel) rfl (Nat.le_of_ble_eq_true rfl) rfl (fun X216 hX216 zX216 => ?_))
  refine tr_aload_n dX12_refused_0 rfl ?_
  refine tr_iload_n dX12_refused_1 rfl ?_
  refine tr_putI dX12_refused_2 fl12_73 (hK 183 12 (by decide) kd_183) (Or.inl rfl) ?_
  refine tr_aload_n dX12_refused_5 rfl ?_
  refine tr_iconst (v := (-1)) dX12_refused_6 (by decide +kernel) ?_
  refine tr_putI dX12_refused_7 fl12_9 (hK 183 12 (by decide) kd_183) (Or.inl rfl) ?_
  refine tr_iconst (v := (-1)) dX12_refused_10 (by decide +kernel) ?_
  refine tr_iret zX216 dX12_refused_11 rfl (by decide) (by decide) ⟨_, rfl, ?_⟩
  refine tr_pop dX12_denied_5 rfl ?_
  refine tr_iconst (v := 0) dX12_denied_6 (by decide +kernel) ?_
  refine tr_zret zX215 dX12_denied_7 rfl (Or.inl rfl) (by decide) (by decide) ⟨_, rfl, ?_⟩
  exact tr_zret zX214 dX12_lift_27 rfl (Or.inl rfl) (by decide) (by decide) rfl
set_option maxHeartbeats 4000000 in
set_option maxRecDepth 100000 in
theorem fX10_seed (a : Int32) {l : Launch} {K N : Nat → Nat} {I : cz_I} {R : cz_R} {L : cz_L} (hf : cz_f1 K N I R) : Con l mX10_seed [.ref 0, .int a] 203 K N I R L (fun r cn' K' N' I' R' _ => r = some (.int (0)) ∧ cn' = 203 ∧ K' = K ∧ N' = N ∧ ∀ k : Nat, 183 ≤ k → I' k = I k ∧ R' k = R k) := by
  obtain ⟨hK, hN, hR, hI⟩ := hf
  refine Con.of (by decide +kernel) rfl (Nat.le_of_ble_eq_true rfl) rfl (fun X217 hX217 zX217 => ?_)
  refine tr_aload_n dX10_seed_0 rfl ?_
  refine tr_getZ dX10_seed_1 fl10_95 (hK 0 10 (by decide) kd_0) ?_
  refine tr_topi 0 (hI 0 5 (by decide +kernel)) ?_
  refine tr_if_ne 13 dX10_seed_4 (by decide) (fun h => absurd (by decide +kernel) h) (fun _ => ?_)
  refine tr_aload_n dX10_seed_7 rfl ?_
  refine tr_iconst (v := 1) dX10_seed_8 (by decide +kernel) ?_
  refine tr_inVi (M' := mX10_refusedAct) (as := [_]) dX10_seed_9 lk10_281 inX10_refusedAct seX10_refusedAct myX10_refusedAct (by decide) ⟨by decide, by decide⟩ rfl (hK 0 10 (by decide) kd_0) (Nat.le_of_ble_eq_true rfl) (by decide) (by decide) (Con.of (by decide +kernel) rfl (Nat.le_of_ble_eq_true rfl) rfl (fun X218 hX218 zX218 => ?_))
  refine tr_aload_n dX10_refusedAct_0 rfl ?_
  refine tr_iload_n dX10_refusedAct_1 rfl ?_
  refine tr_putI dX10_refusedAct_2 fl10_112 (hK 0 10 (by decide) kd_0) (Or.inl rfl) ?_
  refine tr_iconst (v := 0) dX10_refusedAct_5 (by decide +kernel) ?_
  refine tr_zret zX218 dX10_refusedAct_6 rfl (Or.inl rfl) (by decide) (by decide) ⟨_, rfl, ?_⟩
  exact tr_zret zX217 dX10_seed_12 rfl (Or.inl rfl) (by decide) (by decide) ⟨rfl, rfl, rfl, rfl, fun k hk => ⟨by first | rfl | (repeat rw [cz_uIn (by omega)]), by first | rfl | (repeat rw [cz_uRn (by omega)])⟩⟩
set_option maxHeartbeats 4000000 in
set_option maxRecDepth 100000 in
theorem fX12_seed (a : Int32) {l : Launch} {K N : Nat → Nat} {I : cz_I} {R : cz_R} {L : cz_L} (hf : cz_f2 K N I R) : Con l mX12_seed [.ref 183, .int a] 203 K N I R L (fun r _ _ _ _ _ _ => r = some (.int (0))) := by
  obtain ⟨hK, hN, hR, hI, hI2⟩ := hf
  refine Con.of (by decide +kernel) rfl (Nat.le_of_ble_eq_true rfl) rfl (fun X219 hX219 zX219 => ?_)
  refine tr_aload_n dX12_seed_0 rfl ?_
  refine tr_iconst (v := 0) dX12_seed_1 (by decide +kernel) ?_
  refine tr_putI dX12_seed_2 fl12_70 (hK 183 12 (by decide) kd_183) (Or.inl rfl) ?_
  refine tr_aload_n dX12_seed_5 rfl ?_
  refine tr_getN dX12_seed_6 fl12_385 (hK 183 12 (by decide) kd_183) (hR 183 3 none (by decide +kernel) (by decide +kernel)) ?_
  refine tr_ifnonnullN dX12_seed_9 ?_
  refine tr_aload_n dX12_seed_12 rfl ?_
  refine tr_iconst (v := 1) dX12_seed_13 (by decide +kernel) ?_
  refine tr_inVi (M' := mX12_denied) (as := [_]) dX12_seed_14 lk12_507 inX12_denied seX12_denied myX12_denied (by decide) ⟨by decide, by decide⟩ rfl (hK 183 12 (by decide) kd_183) (Nat.le_of_ble_eq_true rfl) (by decide) (by decide) (Con.of (by decide +kernel) rfl (Nat.le_of_ble_eq_true rfl) rfl (fun X220 hX220 zX220 => ?_))
  refine tr_aload_n dX12_denied_0 rfl ?_
  refine tr_iload_n dX12_denied_1 rfl ?_
  refine tr_inVi (M' := mX12_refused) (as := [_]) dX12_denied_2 lk12_76 inX12_refused seX12_refused myX12_refused (by decide) ⟨by decide, by decide⟩ rfl (hK 183 12 (by decide) kd_183) (Nat.le_of_ble_eq_true rfl) (by decide) (by decide) (Con.of (by decide +kernel) rfl (Nat.le_of_ble_eq_true rfl) rfl (fun X221 hX221 zX221 => ?_))
  refine tr_aload_n dX12_refused_0 rfl ?_
  refine tr_iload_n dX12_refused_1 rfl ?_
  refine tr_putI dX12_refused_2 fl12_73 (hK 183 12 (by decide) kd_183) (Or.inl rfl) ?_
  refine tr_aload_n dX12_refused_5 rfl ?_
  refine tr_iconst (v := (-1)) dX12_refused_6 (by decide +kernel) ?_
  refine tr_putI dX12_refused_7 fl12_9 (hK 183 12 (by decide) kd_183) (Or.inl rfl) ?_
  refine tr_iconst (v := (-1)) dX12_refused_10 (by decide +kernel) ?_
  refine tr_iret zX221 dX12_refused_11 rfl (by decide) (by decide) ⟨_, rfl, ?_⟩
  refine tr_pop dX12_denied_5 rfl ?_
  refine tr_iconst (v := 0) dX12_denied_6 (by decide +kernel) ?_
  refine tr_zret zX220 dX12_denied_7 rfl (Or.inl rfl) (by decide) (by decide) ⟨_, rfl, ?_⟩
  exact tr_zret zX219 dX12_seed_17 rfl (Or.inl rfl) (by decide) (by decide) rfl
set_option maxHeartbeats 4000000 in
set_option maxRecDepth 100000 in
theorem fX10_undo {l : Launch} {K N : Nat → Nat} {I : cz_I} {R : cz_R} {L : cz_L} (hf : cz_f1 K N I R) : Con l mX10_undo [.ref 0] 203 K N I R L (fun r cn' K' N' I' R' _ => r = some (.int (0)) ∧ cn' = 203 ∧ K' = K ∧ N' = N ∧ ∀ k : Nat, 183 ≤ k → I' k = I k ∧ R' k = R k) := by
  obtain ⟨hK, hN, hR, hI⟩ := hf
  refine Con.of (by decide +kernel) rfl (Nat.le_of_ble_eq_true rfl) rfl (fun X222 hX222 zX222 => ?_)
  refine tr_aload_n dX10_undo_0 rfl ?_
  refine tr_getR (x := 92) dX10_undo_1 fl10_42 (hK 0 10 (by decide) kd_0) (hR 0 7 (some 92) (by decide +kernel) rf_0_7) ?_
  refine tr_aload_n dX10_undo_4 rfl ?_
  refine tr_getR (x := 89) dX10_undo_5 fl10_35 (hK 0 10 (by decide) kd_0) (hR 0 6 (some 89) (by decide +kernel) rf_0_6) ?_
  refine tr_inVi (M' := mX6_takeBack) (as := [_]) dX10_undo_8 lk10_299 inX6_takeBack seX6_takeBack myX6_takeBack (by decide) ⟨by decide, by decide⟩ rfl (hK 92 6 (by decide) kd_92) (Nat.le_of_ble_eq_true rfl) (by decide) (by decide) (Con.of (by decide +kernel) rfl (Nat.le_of_ble_eq_true rfl) rfl (fun X223 hX223 zX223 => ?_))
  refine tr_aload_n dX6_takeBack_0 rfl ?_
  refine tr_getI dX6_takeBack_1 fl6_21 (hK 92 6 (by decide) kd_92) ?_
  refine tr_topi 0 (hI 92 0 (by decide +kernel)) ?_
  refine tr_if_ne 9 dX6_takeBack_4 (by decide) (fun h => absurd (by decide +kernel) h) (fun _ => ?_)
  refine tr_iconst (v := 0) dX6_takeBack_7 (by decide +kernel) ?_
  refine tr_zret zX223 dX6_takeBack_8 rfl (Or.inl rfl) (by decide) (by decide) ⟨_, rfl, ?_⟩
  refine tr_if_ne 21 dX10_undo_11 (by decide) (fun h => absurd (by decide +kernel) h) (fun _ => ?_)
  refine tr_aload_n dX10_undo_14 rfl ?_
  refine tr_bipush (v := 6) dX10_undo_15 (by decide +kernel) ?_
  refine tr_inVi (M' := mX10_refusedAct) (as := [_]) dX10_undo_17 lk10_281 inX10_refusedAct seX10_refusedAct myX10_refusedAct (by decide) ⟨by decide, by decide⟩ rfl (hK 0 10 (by decide) kd_0) (Nat.le_of_ble_eq_true rfl) (by decide) (by decide) (Con.of (by decide +kernel) rfl (Nat.le_of_ble_eq_true rfl) rfl (fun X224 hX224 zX224 => ?_))
  refine tr_aload_n dX10_refusedAct_0 rfl ?_
  refine tr_iload_n dX10_refusedAct_1 rfl ?_
  refine tr_putI dX10_refusedAct_2 fl10_112 (hK 0 10 (by decide) kd_0) (Or.inl rfl) ?_
  refine tr_iconst (v := 0) dX10_refusedAct_5 (by decide +kernel) ?_
  refine tr_zret zX224 dX10_refusedAct_6 rfl (Or.inl rfl) (by decide) (by decide) ⟨_, rfl, ?_⟩
  exact tr_zret zX222 dX10_undo_20 rfl (Or.inl rfl) (by decide) (by decide) ⟨rfl, rfl, rfl, rfl, fun k hk => ⟨by first | rfl | (repeat rw [cz_uIn (by omega)]), by first | rfl | (repeat rw [cz_uRn (by omega)])⟩⟩
set_option maxHeartbeats 4000000 in
set_option maxRecDepth 100000 in
theorem fX12_undo {l : Launch} {K N : Nat → Nat} {I : cz_I} {R : cz_R} {L : cz_L} (hf : cz_f2 K N I R) : Con l mX12_undo [.ref 183] 203 K N I R L (fun r _ _ _ _ _ _ => r = some (.int (0))) := by
  obtain ⟨hK, hN, hR, hI, hI2⟩ := hf
  refine Con.of (by decide +kernel) rfl (Nat.le_of_ble_eq_true rfl) rfl (fun X225 hX225 zX225 => ?_)
  refine tr_aload_n dX12_undo_0 rfl ?_
  refine tr_iconst (v := 0) dX12_undo_1 (by decide +kernel) ?_
  refine tr_putI dX12_undo_2 fl12_70 (hK 183 12 (by decide) kd_183) (Or.inl rfl) ?_
  refine tr_aload_n dX12_undo_5 rfl ?_
  refine tr_getN dX12_undo_6 fl12_385 (hK 183 12 (by decide) kd_183) (hR 183 3 none (by decide +kernel) (by decide +kernel)) ?_
  refine tr_ifnullN 19 dX12_undo_9 (by decide) ?_
  refine tr_aload_n dX12_undo_19 rfl ?_
  refine tr_bipush (v := 6) dX12_undo_20 (by decide +kernel) ?_
  refine tr_inVi (M' := mX12_denied) (as := [_]) dX12_undo_22 lk12_507 inX12_denied seX12_denied myX12_denied (by decide) ⟨by decide, by decide⟩ rfl (hK 183 12 (by decide) kd_183) (Nat.le_of_ble_eq_true rfl) (by decide) (by decide) (Con.of (by decide +kernel) rfl (Nat.le_of_ble_eq_true rfl) rfl (fun X226 hX226 zX226 => ?_))
  refine tr_aload_n dX12_denied_0 rfl ?_
  refine tr_iload_n dX12_denied_1 rfl ?_
  refine tr_inVi (M' := mX12_refused) (as := [_]) dX12_denied_2 lk12_76 inX12_refused seX12_refused myX12_refused (by decide) ⟨by decide, by decide⟩ rfl (hK 183 12 (by decide) kd_183) (Nat.le_of_ble_eq_true rfl) (by decide) (by decide) (Con.of (by decide +kernel) rfl (Nat.le_of_ble_eq_true rfl) rfl (fun X227 hX227 zX227 => ?_))
  refine tr_aload_n dX12_refused_0 rfl ?_
  refine tr_iload_n dX12_refused_1 rfl ?_
  refine tr_putI dX12_refused_2 fl12_73 (hK 183 12 (by decide) kd_183) (Or.inl rfl) ?_
  refine tr_aload_n dX12_refused_5 rfl ?_
  refine tr_iconst (v := (-1)) dX12_refused_6 (by decide +kernel) ?_
  refine tr_putI dX12_refused_7 fl12_9 (hK 183 12 (by decide) kd_183) (Or.inl rfl) ?_
  refine tr_iconst (v := (-1)) dX12_refused_10 (by decide +kernel) ?_
  refine tr_iret zX227 dX12_refused_11 rfl (by decide) (by decide) ⟨_, rfl, ?_⟩
  refine tr_pop dX12_denied_5 rfl ?_
  refine tr_iconst (v := 0) dX12_denied_6 (by decide +kernel) ?_
  refine tr_zret zX226 dX12_denied_7 rfl (Or.inl rfl) (by decide) (by decide) ⟨_, rfl, ?_⟩
  exact tr_zret zX225 dX12_undo_25 rfl (Or.inl rfl) (by decide) (by decide) rfl
set_option maxHeartbeats 4000000 in
set_option maxRecDepth 100000 in
theorem fX10_mark {l : Launch} {K N : Nat → Nat} {I : cz_I} {R : cz_R} {L : cz_L} (hf : cz_f1 K N I R) : Con l mX10_mark [.ref 0] 203 K N I R L (fun r cn' K' N' I' R' _ => r = some (.int ((-1))) ∧ cn' = 203 ∧ K' = K ∧ N' = N ∧ ∀ k : Nat, 183 ≤ k → I' k = I k ∧ R' k = R k) := by
  obtain ⟨hK, hN, hR, hI⟩ := hf
  refine Con.of (by decide +kernel) rfl (Nat.le_of_ble_eq_true rfl) rfl (fun X228 hX228 zX228 => ?_)
  refine tr_aload_n dX10_mark_0 rfl ?_
  refine tr_getZ dX10_mark_1 fl10_95 (hK 0 10 (by decide) kd_0) ?_
  refine tr_topi 0 (hI 0 5 (by decide +kernel)) ?_
  refine tr_if_ne 13 dX10_mark_4 (by decide) (fun h => absurd (by decide +kernel) h) (fun _ => ?_)
  refine tr_aload_n dX10_mark_7 rfl ?_
  refine tr_iconst (v := 1) dX10_mark_8 (by decide +kernel) ?_
  refine tr_inVi (M' := mX10_refused) (as := [_]) dX10_mark_9 lk10_79 inX10_refused seX10_refused myX10_refused (by decide) ⟨by decide, by decide⟩ rfl (hK 0 10 (by decide) kd_0) (Nat.le_of_ble_eq_true rfl) (by decide) (by decide) (Con.of (by decide +kernel) rfl (Nat.le_of_ble_eq_true rfl) rfl (fun X229 hX229 zX229 => ?_))
  refine tr_aload_n dX10_refused_0 rfl ?_
  refine tr_iload_n dX10_refused_1 rfl ?_
  refine tr_putI dX10_refused_2 fl10_112 (hK 0 10 (by decide) kd_0) (Or.inl rfl) ?_
  refine tr_iconst (v := (-1)) dX10_refused_5 (by decide +kernel) ?_
  refine tr_iret zX229 dX10_refused_6 rfl (by decide) (by decide) ⟨_, rfl, ?_⟩
  exact tr_iret zX228 dX10_mark_12 rfl (by decide) (by decide) ⟨rfl, rfl, rfl, rfl, fun k hk => ⟨by first | rfl | (repeat rw [cz_uIn (by omega)]), by first | rfl | (repeat rw [cz_uRn (by omega)])⟩⟩
set_option maxHeartbeats 4000000 in
set_option maxRecDepth 100000 in
theorem fX12_mark {l : Launch} {K N : Nat → Nat} {I : cz_I} {R : cz_R} {L : cz_L} (hf : cz_f2 K N I R) : Con l mX12_mark [.ref 183] 203 K N I R L (fun r _ _ _ _ _ _ => r = some (.int ((-1)))) := by
  obtain ⟨hK, hN, hR, hI, hI2⟩ := hf
  refine Con.of (by decide +kernel) rfl (Nat.le_of_ble_eq_true rfl) rfl (fun X230 hX230 zX230 => ?_)
  refine tr_aload_n dX12_mark_0 rfl ?_
  refine tr_iconst (v := 0) dX12_mark_1 (by decide +kernel) ?_
  refine tr_putI dX12_mark_2 fl12_70 (hK 183 12 (by decide) kd_183) (Or.inl rfl) ?_
  refine tr_aload_n dX12_mark_5 rfl ?_
  refine tr_getN dX12_mark_6 fl12_385 (hK 183 12 (by decide) kd_183) (hR 183 3 none (by decide +kernel) (by decide +kernel)) ?_
  refine tr_ifnonnullN dX12_mark_9 ?_
  refine tr_aload_n dX12_mark_12 rfl ?_
  refine tr_iconst (v := 1) dX12_mark_13 (by decide +kernel) ?_
  refine tr_inVi (M' := mX12_refused) (as := [_]) dX12_mark_14 lk12_76 inX12_refused seX12_refused myX12_refused (by decide) ⟨by decide, by decide⟩ rfl (hK 183 12 (by decide) kd_183) (Nat.le_of_ble_eq_true rfl) (by decide) (by decide) (Con.of (by decide +kernel) rfl (Nat.le_of_ble_eq_true rfl) rfl (fun X231 hX231 zX231 => ?_))
  refine tr_aload_n dX12_refused_0 rfl ?_
  refine tr_iload_n dX12_refused_1 rfl ?_
  refine tr_putI dX12_refused_2 fl12_73 (hK 183 12 (by decide) kd_183) (Or.inl rfl) ?_
  refine tr_aload_n dX12_refused_5 rfl ?_
  refine tr_iconst (v := (-1)) dX12_refused_6 (by decide +kernel) ?_
  refine tr_putI dX12_refused_7 fl12_9 (hK 183 12 (by decide) kd_183) (Or.inl rfl) ?_
  refine tr_iconst (v := (-1)) dX12_refused_10 (by decide +kernel) ?_
  refine tr_iret zX231 dX12_refused_11 rfl (by decide) (by decide) ⟨_, rfl, ?_⟩
  exact tr_iret zX230 dX12_mark_17 rfl (by decide) (by decide) rfl
set_option maxHeartbeats 4000000 in
set_option maxRecDepth 100000 in
theorem fX10_back (a : Int32) {l : Launch} {K N : Nat → Nat} {I : cz_I} {R : cz_R} {L : cz_L} (hf : cz_f1 K N I R) : Con l mX10_back [.ref 0, .int a] 203 K N I R L (fun r cn' K' N' I' R' _ => r = some (.int (0)) ∧ cn' = 203 ∧ K' = K ∧ N' = N ∧ ∀ k : Nat, 183 ≤ k → I' k = I k ∧ R' k = R k) := by
  obtain ⟨hK, hN, hR, hI⟩ := hf
  refine Con.of (by decide +kernel) rfl (Nat.le_of_ble_eq_true rfl) rfl (fun X232 hX232 zX232 => ?_)
  refine tr_aload_n dX10_back_0 rfl ?_
  refine tr_getR (x := 92) dX10_back_1 fl10_42 (hK 0 10 (by decide) kd_0) (hR 0 7 (some 92) (by decide +kernel) rf_0_7) ?_
  refine tr_aload_n dX10_back_4 rfl ?_
  refine tr_getR (x := 89) dX10_back_5 fl10_35 (hK 0 10 (by decide) kd_0) (hR 0 6 (some 89) (by decide +kernel) rf_0_6) ?_
  refine tr_iload_n dX10_back_8 rfl ?_
  refine tr_inVi (M' := mX6_goBack) (as := [_, _]) dX10_back_9 lk10_307 inX6_goBack seX6_goBack myX6_goBack (by decide) ⟨by decide, by decide⟩ rfl (hK 92 6 (by decide) kd_92) (Nat.le_of_ble_eq_true rfl) (by decide) (by decide) (Con.of (by decide +kernel) rfl (Nat.le_of_ble_eq_true rfl) rfl (fun X233 hX233 zX233 => ?_))
  refine tr_iload_n dX6_goBack_0 rfl ?_
  refine tr_if_lt 12 dX6_goBack_1 (by decide) (fun q234 => ?_) (fun q234 => ?_)
  · skip
    refine tr_iconst (v := 0) dX6_goBack_12 (by decide +kernel) ?_
    refine tr_zret zX233 dX6_goBack_13 rfl (Or.inl rfl) (by decide) (by decide) ⟨_, rfl, ?_⟩
    refine tr_if_ne 21 dX10_back_12 (by decide) (fun h => absurd (by decide +kernel) h) (fun _ => ?_)
    refine tr_aload_n dX10_back_15 rfl ?_
    refine tr_iconst (v := 1) dX10_back_16 (by decide +kernel) ?_
    refine tr_inVi (M' := mX10_refusedAct) (as := [_]) dX10_back_17 lk10_281 inX10_refusedAct seX10_refusedAct myX10_refusedAct (by decide) ⟨by decide, by decide⟩ rfl (hK 0 10 (by decide) kd_0) (Nat.le_of_ble_eq_true rfl) (by decide) (by decide) (Con.of (by decide +kernel) rfl (Nat.le_of_ble_eq_true rfl) rfl (fun X235 hX235 zX235 => ?_))
    refine tr_aload_n dX10_refusedAct_0 rfl ?_
    refine tr_iload_n dX10_refusedAct_1 rfl ?_
    refine tr_putI dX10_refusedAct_2 fl10_112 (hK 0 10 (by decide) kd_0) (Or.inl rfl) ?_
    refine tr_iconst (v := 0) dX10_refusedAct_5 (by decide +kernel) ?_
    refine tr_zret zX235 dX10_refusedAct_6 rfl (Or.inl rfl) (by decide) (by decide) ⟨_, rfl, ?_⟩
    exact tr_zret zX232 dX10_back_20 rfl (Or.inl rfl) (by decide) (by decide) ⟨rfl, rfl, rfl, rfl, fun k hk => ⟨by first | rfl | (repeat rw [cz_uIn (by omega)]), by first | rfl | (repeat rw [cz_uRn (by omega)])⟩⟩
  · skip
    refine tr_iload_n dX6_goBack_4 rfl ?_
    refine tr_aload_n dX6_goBack_5 rfl ?_
    refine tr_getI dX6_goBack_6 fl6_25 (hK 92 6 (by decide) kd_92) ?_
    refine tr_topi 0 (hI 92 2 (by decide +kernel)) ?_
    refine tr_icmp_lt 14 dX6_goBack_9 (by decide) (fun q236 => ?_) (fun q236 => ?_)
    · skip
      exfalso
      have e0 : ((0 : Int32)).toInt = 0 := by decide +kernel
      simp only [Int32.lt_iff_toInt_lt, Int32.le_iff_toInt_le, ← Int32.toInt_inj] at q236
      simp only [Int32.lt_iff_toInt_lt, Int32.le_iff_toInt_le, ← Int32.toInt_inj] at q234
      omega
    · skip
      refine tr_iconst (v := 0) dX6_goBack_12 (by decide +kernel) ?_
      refine tr_zret zX233 dX6_goBack_13 rfl (Or.inl rfl) (by decide) (by decide) ⟨_, rfl, ?_⟩
      refine tr_if_ne 21 dX10_back_12 (by decide) (fun h => absurd (by decide +kernel) h) (fun _ => ?_)
      refine tr_aload_n dX10_back_15 rfl ?_
      refine tr_iconst (v := 1) dX10_back_16 (by decide +kernel) ?_
      refine tr_inVi (M' := mX10_refusedAct) (as := [_]) dX10_back_17 lk10_281 inX10_refusedAct seX10_refusedAct myX10_refusedAct (by decide) ⟨by decide, by decide⟩ rfl (hK 0 10 (by decide) kd_0) (Nat.le_of_ble_eq_true rfl) (by decide) (by decide) (Con.of (by decide +kernel) rfl (Nat.le_of_ble_eq_true rfl) rfl (fun X237 hX237 zX237 => ?_))
      refine tr_aload_n dX10_refusedAct_0 rfl ?_
      refine tr_iload_n dX10_refusedAct_1 rfl ?_
      refine tr_putI dX10_refusedAct_2 fl10_112 (hK 0 10 (by decide) kd_0) (Or.inl rfl) ?_
      refine tr_iconst (v := 0) dX10_refusedAct_5 (by decide +kernel) ?_
      refine tr_zret zX237 dX10_refusedAct_6 rfl (Or.inl rfl) (by decide) (by decide) ⟨_, rfl, ?_⟩
      exact tr_zret zX232 dX10_back_20 rfl (Or.inl rfl) (by decide) (by decide) ⟨rfl, rfl, rfl, rfl, fun k hk => ⟨by first | rfl | (repeat rw [cz_uIn (by omega)]), by first | rfl | (repeat rw [cz_uRn (by omega)])⟩⟩
set_option maxHeartbeats 4000000 in
set_option maxRecDepth 100000 in
theorem fX12_back (a : Int32) {l : Launch} {K N : Nat → Nat} {I : cz_I} {R : cz_R} {L : cz_L} (hf : cz_f2 K N I R) : Con l mX12_back [.ref 183, .int a] 203 K N I R L (fun r _ _ _ _ _ _ => r = some (.int (0))) := by
  obtain ⟨hK, hN, hR, hI, hI2⟩ := hf
  refine Con.of (by decide +kernel) rfl (Nat.le_of_ble_eq_true rfl) rfl (fun X238 hX238 zX238 => ?_)
  refine tr_aload_n dX12_back_0 rfl ?_
  refine tr_iconst (v := 0) dX12_back_1 (by decide +kernel) ?_
  refine tr_putI dX12_back_2 fl12_70 (hK 183 12 (by decide) kd_183) (Or.inl rfl) ?_
  refine tr_aload_n dX12_back_5 rfl ?_
  refine tr_getN dX12_back_6 fl12_385 (hK 183 12 (by decide) kd_183) (hR 183 3 none (by decide +kernel) (by decide +kernel)) ?_
  refine tr_ifnullN 24 dX12_back_9 (by decide) ?_
  refine tr_aload_n dX12_back_24 rfl ?_
  refine tr_iconst (v := 1) dX12_back_25 (by decide +kernel) ?_
  refine tr_inVi (M' := mX12_denied) (as := [_]) dX12_back_26 lk12_507 inX12_denied seX12_denied myX12_denied (by decide) ⟨by decide, by decide⟩ rfl (hK 183 12 (by decide) kd_183) (Nat.le_of_ble_eq_true rfl) (by decide) (by decide) (Con.of (by decide +kernel) rfl (Nat.le_of_ble_eq_true rfl) rfl (fun X239 hX239 zX239 => ?_))
  refine tr_aload_n dX12_denied_0 rfl ?_
  refine tr_iload_n dX12_denied_1 rfl ?_
  refine tr_inVi (M' := mX12_refused) (as := [_]) dX12_denied_2 lk12_76 inX12_refused seX12_refused myX12_refused (by decide) ⟨by decide, by decide⟩ rfl (hK 183 12 (by decide) kd_183) (Nat.le_of_ble_eq_true rfl) (by decide) (by decide) (Con.of (by decide +kernel) rfl (Nat.le_of_ble_eq_true rfl) rfl (fun X240 hX240 zX240 => ?_))
  refine tr_aload_n dX12_refused_0 rfl ?_
  refine tr_iload_n dX12_refused_1 rfl ?_
  refine tr_putI dX12_refused_2 fl12_73 (hK 183 12 (by decide) kd_183) (Or.inl rfl) ?_
  refine tr_aload_n dX12_refused_5 rfl ?_
  refine tr_iconst (v := (-1)) dX12_refused_6 (by decide +kernel) ?_
  refine tr_putI dX12_refused_7 fl12_9 (hK 183 12 (by decide) kd_183) (Or.inl rfl) ?_
  refine tr_iconst (v := (-1)) dX12_refused_10 (by decide +kernel) ?_
  refine tr_iret zX240 dX12_refused_11 rfl (by decide) (by decide) ⟨_, rfl, ?_⟩
  refine tr_pop dX12_denied_5 rfl ?_
  refine tr_iconst (v := 0) dX12_denied_6 (by decide +kernel) ?_
  refine tr_zret zX239 dX12_denied_7 rfl (Or.inl rfl) (by decide) (by decide) ⟨_, rfl, ?_⟩
  exact tr_zret zX238 dX12_back_29 rfl (Or.inl rfl) (by decide) (by decide) rfl
set_option maxHeartbeats 4000000 in
set_option maxRecDepth 100000 in
theorem fX10_event (a b : Int32) {l : Launch} {K N : Nat → Nat} {I : cz_I} {R : cz_R} {L : cz_L} (hf : cz_f1 K N I R) : Con l mX10_event [.ref 0, .int a, .int b] 203 K N I R L (fun r cn' K' N' I' R' _ => r = some (.int ((-1))) ∧ cn' = 203 ∧ K' = K ∧ N' = N ∧ ∀ k : Nat, 183 ≤ k → I' k = I k ∧ R' k = R k) := by
  obtain ⟨hK, hN, hR, hI⟩ := hf
  refine Con.of (by decide +kernel) rfl (Nat.le_of_ble_eq_true rfl) rfl (fun X241 hX241 zX241 => ?_)
  refine tr_aload_n dX10_event_0 rfl ?_
  refine tr_iload_n dX10_event_1 rfl ?_
  refine tr_inVi (M' := mX10_isEvent) (as := [_]) dX10_event_2 lk10_234 inX10_isEvent seX10_isEvent myX10_isEvent (by decide) ⟨by decide, by decide⟩ rfl (hK 0 10 (by decide) kd_0) (Nat.le_of_ble_eq_true rfl) (by decide) (by decide) (Con.of (by decide +kernel) rfl (Nat.le_of_ble_eq_true rfl) rfl (fun X242 hX242 zX242 => ?_))
  refine tr_iload_n dX10_isEvent_0 rfl ?_
  refine tr_if_lt 16 dX10_isEvent_1 (by decide) (fun q243 => ?_) (fun q243 => ?_)
  · skip
    refine tr_iconst (v := 0) dX10_isEvent_16 (by decide +kernel) ?_
    refine tr_zret zX242 dX10_isEvent_17 rfl (Or.inl rfl) (by decide) (by decide) ⟨_, rfl, ?_⟩
    refine tr_if_ne 14 dX10_event_5 (by decide) (fun h => absurd (by decide +kernel) h) (fun _ => ?_)
    refine tr_aload_n dX10_event_8 rfl ?_
    refine tr_iconst (v := 1) dX10_event_9 (by decide +kernel) ?_
    refine tr_inVi (M' := mX10_refused) (as := [_]) dX10_event_10 lk10_79 inX10_refused seX10_refused myX10_refused (by decide) ⟨by decide, by decide⟩ rfl (hK 0 10 (by decide) kd_0) (Nat.le_of_ble_eq_true rfl) (by decide) (by decide) (Con.of (by decide +kernel) rfl (Nat.le_of_ble_eq_true rfl) rfl (fun X244 hX244 zX244 => ?_))
    refine tr_aload_n dX10_refused_0 rfl ?_
    refine tr_iload_n dX10_refused_1 rfl ?_
    refine tr_putI dX10_refused_2 fl10_112 (hK 0 10 (by decide) kd_0) (Or.inl rfl) ?_
    refine tr_iconst (v := (-1)) dX10_refused_5 (by decide +kernel) ?_
    refine tr_iret zX244 dX10_refused_6 rfl (by decide) (by decide) ⟨_, rfl, ?_⟩
    exact tr_iret zX241 dX10_event_13 rfl (by decide) (by decide) ⟨rfl, rfl, rfl, rfl, fun k hk => ⟨by first | rfl | (repeat rw [cz_uIn (by omega)]), by first | rfl | (repeat rw [cz_uRn (by omega)])⟩⟩
  · skip
    refine tr_iload_n dX10_isEvent_4 rfl ?_
    refine tr_aload_n dX10_isEvent_5 rfl ?_
    refine tr_inVi (M' := mX10_eventCount) (as := []) dX10_isEvent_6 lk10_225 inX10_eventCount seX10_eventCount myX10_eventCount (by decide) ⟨by decide, by decide⟩ rfl (hK 0 10 (by decide) kd_0) (Nat.le_of_ble_eq_true rfl) (by decide) (by decide) (Con.of (by decide +kernel) rfl (Nat.le_of_ble_eq_true rfl) rfl (fun X245 hX245 zX245 => ?_))
    refine tr_aload_n dX10_eventCount_0 rfl ?_
    refine tr_getR (x := 2) dX10_eventCount_1 fl10_16 (hK 0 10 (by decide) kd_0) (hR 0 2 (some 2) (by decide +kernel) rf_0_2) ?_
    refine tr_getI dX10_eventCount_4 fl10_311 (hK 2 0 (by decide) kd_2) ?_
    refine tr_topi 0 (hI 2 3 (by decide +kernel)) ?_
    refine tr_aload_n dX10_eventCount_7 rfl ?_
    refine tr_getR (x := 89) dX10_eventCount_8 fl10_35 (hK 0 10 (by decide) kd_0) (hR 0 6 (some 89) (by decide +kernel) rf_0_6) ?_
    refine tr_getI dX10_eventCount_11 fl10_272 (hK 89 3 (by decide) kd_89) ?_
    refine tr_topi 0 (hI 89 2 (by decide +kernel)) ?_
    refine tr_iadd dX10_eventCount_14 ?_
    refine tr_topi 0 (by decide +kernel) ?_
    refine tr_iret zX245 dX10_eventCount_15 rfl (by decide) (by decide) ⟨_, rfl, ?_⟩
    refine tr_icmp_ge 16 dX10_isEvent_9 (by decide) (fun q246 => ?_) (fun q246 => ?_)
    · skip
      refine tr_iconst (v := 0) dX10_isEvent_16 (by decide +kernel) ?_
      refine tr_zret zX242 dX10_isEvent_17 rfl (Or.inl rfl) (by decide) (by decide) ⟨_, rfl, ?_⟩
      refine tr_if_ne 14 dX10_event_5 (by decide) (fun h => absurd (by decide +kernel) h) (fun _ => ?_)
      refine tr_aload_n dX10_event_8 rfl ?_
      refine tr_iconst (v := 1) dX10_event_9 (by decide +kernel) ?_
      refine tr_inVi (M' := mX10_refused) (as := [_]) dX10_event_10 lk10_79 inX10_refused seX10_refused myX10_refused (by decide) ⟨by decide, by decide⟩ rfl (hK 0 10 (by decide) kd_0) (Nat.le_of_ble_eq_true rfl) (by decide) (by decide) (Con.of (by decide +kernel) rfl (Nat.le_of_ble_eq_true rfl) rfl (fun X247 hX247 zX247 => ?_))
      refine tr_aload_n dX10_refused_0 rfl ?_
      refine tr_iload_n dX10_refused_1 rfl ?_
      refine tr_putI dX10_refused_2 fl10_112 (hK 0 10 (by decide) kd_0) (Or.inl rfl) ?_
      refine tr_iconst (v := (-1)) dX10_refused_5 (by decide +kernel) ?_
      refine tr_iret zX247 dX10_refused_6 rfl (by decide) (by decide) ⟨_, rfl, ?_⟩
      exact tr_iret zX241 dX10_event_13 rfl (by decide) (by decide) ⟨rfl, rfl, rfl, rfl, fun k hk => ⟨by first | rfl | (repeat rw [cz_uIn (by omega)]), by first | rfl | (repeat rw [cz_uRn (by omega)])⟩⟩
    · skip
      exfalso
      have e0 : ((0 : Int32)).toInt = 0 := by decide +kernel
      simp only [Int32.lt_iff_toInt_lt, Int32.le_iff_toInt_le, ← Int32.toInt_inj] at q246
      simp only [Int32.lt_iff_toInt_lt, Int32.le_iff_toInt_le, ← Int32.toInt_inj] at q243
      omega
set_option maxHeartbeats 4000000 in
set_option maxRecDepth 100000 in
theorem fX12_event (a b : Int32) {l : Launch} {K N : Nat → Nat} {I : cz_I} {R : cz_R} {L : cz_L} (hf : cz_f2 K N I R) : Con l mX12_event [.ref 183, .int a, .int b] 203 K N I R L (fun r _ _ _ _ _ _ => r = some (.int ((-1)))) := by
  obtain ⟨hK, hN, hR, hI, hI2⟩ := hf
  refine Con.of (by decide +kernel) rfl (Nat.le_of_ble_eq_true rfl) rfl (fun X248 hX248 zX248 => ?_)
  refine tr_aload_n dX12_event_0 rfl ?_
  refine tr_iconst (v := 0) dX12_event_1 (by decide +kernel) ?_
  refine tr_putI dX12_event_2 fl12_70 (hK 183 12 (by decide) kd_183) (Or.inl rfl) ?_
  refine tr_aload_n dX12_event_5 rfl ?_
  refine tr_iload_n dX12_event_6 rfl ?_
  refine tr_inVi (M' := mX12_isEvent) (as := [_]) dX12_event_7 lk12_467 inX12_isEvent seX12_isEvent myX12_isEvent (by decide) ⟨by decide, by decide⟩ rfl (hK 183 12 (by decide) kd_183) (Nat.le_of_ble_eq_true rfl) (by decide) (by decide) (Con.of (by decide +kernel) rfl (Nat.le_of_ble_eq_true rfl) rfl (fun X249 hX249 zX249 => ?_))
  refine tr_aload_n dX12_isEvent_0 rfl ?_
  refine tr_getN dX12_isEvent_1 fl12_385 (hK 183 12 (by decide) kd_183) (hR 183 3 none (by decide +kernel) (by decide +kernel)) ?_
  refine tr_ifnullN 23 dX12_isEvent_4 (by decide) ?_
  refine tr_iconst (v := 0) dX12_isEvent_23 (by decide +kernel) ?_
  refine tr_zret zX249 dX12_isEvent_24 rfl (Or.inl rfl) (by decide) (by decide) ⟨_, rfl, ?_⟩
  refine tr_if_eq 22 dX12_event_10 (by decide) (fun _ => ?_) (fun h => absurd (by decide +kernel) h)
  refine tr_aload_n dX12_event_22 rfl ?_
  refine tr_iconst (v := 1) dX12_event_23 (by decide +kernel) ?_
  refine tr_inVi (M' := mX12_refused) (as := [_]) dX12_event_24 lk12_76 inX12_refused seX12_refused myX12_refused (by decide) ⟨by decide, by decide⟩ rfl (hK 183 12 (by decide) kd_183) (Nat.le_of_ble_eq_true rfl) (by decide) (by decide) (Con.of (by decide +kernel) rfl (Nat.le_of_ble_eq_true rfl) rfl (fun X250 hX250 zX250 => ?_))
  refine tr_aload_n dX12_refused_0 rfl ?_
  refine tr_iload_n dX12_refused_1 rfl ?_
  refine tr_putI dX12_refused_2 fl12_73 (hK 183 12 (by decide) kd_183) (Or.inl rfl) ?_
  refine tr_aload_n dX12_refused_5 rfl ?_
  refine tr_iconst (v := (-1)) dX12_refused_6 (by decide +kernel) ?_
  refine tr_putI dX12_refused_7 fl12_9 (hK 183 12 (by decide) kd_183) (Or.inl rfl) ?_
  refine tr_iconst (v := (-1)) dX12_refused_10 (by decide +kernel) ?_
  refine tr_iret zX250 dX12_refused_11 rfl (by decide) (by decide) ⟨_, rfl, ?_⟩
  exact tr_iret zX248 dX12_event_27 rfl (by decide) (by decide) rfl
set_option maxHeartbeats 4000000 in
set_option maxRecDepth 100000 in
theorem fX10_size (a : Int32) {l : Launch} {K N : Nat → Nat} {I : cz_I} {R : cz_R} {L : cz_L} (hf : cz_f1 K N I R) : Con l mX10_size [.ref 0, .int a] 203 K N I R L (fun r cn' K' N' I' R' _ => r = some (.int (cz_szv a)) ∧ cn' = 203 ∧ K' = K ∧ N' = N ∧ ∀ k : Nat, 183 ≤ k → I' k = I k ∧ R' k = R k) := by
  obtain ⟨hK, hN, hR, hI⟩ := hf
  refine Con.of (by decide +kernel) rfl (Nat.le_of_ble_eq_true rfl) rfl (fun X251 hX251 zX251 => ?_)
  rcases cz_sz13 a with ha | ha | rfl | rfl | rfl | rfl | rfl | rfl | rfl | rfl | rfl | rfl | rfl | rfl | rfl
  · skip
    refine tr_iload_n dX10_size_0 rfl ?_
    refine tr_tabOut 172 dX10_size_1 (cz_outl ha) (by decide) ?_
    refine tr_iconst (v := (-1)) dX10_size_172 (by decide +kernel) ?_
    exact tr_iret zX251 dX10_size_173 rfl (by decide) (by decide) ⟨(by rw [show cz_szv a = -1 from cz_szl ha]), rfl, rfl, rfl, fun k hk => ⟨by first | rfl | (repeat rw [cz_uIn (by omega)]), by first | rfl | (repeat rw [cz_uRn (by omega)])⟩⟩
  · skip
    refine tr_iload_n dX10_size_0 rfl ?_
    refine tr_tabOut 172 dX10_size_1 (cz_outr ha) (by decide) ?_
    refine tr_iconst (v := (-1)) dX10_size_172 (by decide +kernel) ?_
    exact tr_iret zX251 dX10_size_173 rfl (by decide) (by decide) ⟨(by rw [show cz_szv a = -1 from cz_szr ha]), rfl, rfl, rfl, fun k hk => ⟨by first | rfl | (repeat rw [cz_uIn (by omega)]), by first | rfl | (repeat rw [cz_uRn (by omega)])⟩⟩
  · skip
    refine tr_iload_n dX10_size_0 rfl ?_
    refine tr_tabIn (off := 67) 68 dX10_size_1 (by decide +kernel) (by decide +kernel) (by decide +kernel) (by decide) ?_
    refine tr_aload_n dX10_size_68 rfl ?_
    refine tr_getR (x := 2) dX10_size_69 fl10_16 (hK 0 10 (by decide) kd_0) (hR 0 2 (some 2) (by decide +kernel) rf_0_2) ?_
    refine tr_getI dX10_size_72 fl10_146 (hK 2 0 (by decide) kd_2) ?_
    refine tr_topi 0 (hI 2 0 (by decide +kernel)) ?_
    exact tr_iret zX251 dX10_size_75 rfl (by decide) (by decide) ⟨(by rw [show cz_szv 0 = 0 by decide +kernel]), rfl, rfl, rfl, fun k hk => ⟨by first | rfl | (repeat rw [cz_uIn (by omega)]), by first | rfl | (repeat rw [cz_uRn (by omega)])⟩⟩
  · skip
    refine tr_iload_n dX10_size_0 rfl ?_
    refine tr_tabIn (off := 75) 76 dX10_size_1 (by decide +kernel) (by decide +kernel) (by decide +kernel) (by decide) ?_
    refine tr_aload_n dX10_size_76 rfl ?_
    refine tr_getR (x := 2) dX10_size_77 fl10_16 (hK 0 10 (by decide) kd_0) (hR 0 2 (some 2) (by decide +kernel) rf_0_2) ?_
    refine tr_getI dX10_size_80 fl10_332 (hK 2 0 (by decide) kd_2) ?_
    refine tr_topi 0 (hI 2 1 (by decide +kernel)) ?_
    exact tr_iret zX251 dX10_size_83 rfl (by decide) (by decide) ⟨(by rw [show cz_szv 1 = 0 by decide +kernel]), rfl, rfl, rfl, fun k hk => ⟨by first | rfl | (repeat rw [cz_uIn (by omega)]), by first | rfl | (repeat rw [cz_uRn (by omega)])⟩⟩
  · skip
    refine tr_iload_n dX10_size_0 rfl ?_
    refine tr_tabIn (off := 83) 84 dX10_size_1 (by decide +kernel) (by decide +kernel) (by decide +kernel) (by decide) ?_
    refine tr_aload_n dX10_size_84 rfl ?_
    refine tr_getR (x := 2) dX10_size_85 fl10_16 (hK 0 10 (by decide) kd_0) (hR 0 2 (some 2) (by decide +kernel) rf_0_2) ?_
    refine tr_getI dX10_size_88 fl10_311 (hK 2 0 (by decide) kd_2) ?_
    refine tr_topi 0 (hI 2 3 (by decide +kernel)) ?_
    exact tr_iret zX251 dX10_size_91 rfl (by decide) (by decide) ⟨(by rw [show cz_szv 2 = 0 by decide +kernel]), rfl, rfl, rfl, fun k hk => ⟨by first | rfl | (repeat rw [cz_uIn (by omega)]), by first | rfl | (repeat rw [cz_uRn (by omega)])⟩⟩
  · skip
    refine tr_iload_n dX10_size_0 rfl ?_
    refine tr_tabIn (off := 91) 92 dX10_size_1 (by decide +kernel) (by decide +kernel) (by decide +kernel) (by decide) ?_
    refine tr_aload_n dX10_size_92 rfl ?_
    refine tr_getR (x := 89) dX10_size_93 fl10_35 (hK 0 10 (by decide) kd_0) (hR 0 6 (some 89) (by decide +kernel) rf_0_6) ?_
    refine tr_getI dX10_size_96 fl10_272 (hK 89 3 (by decide) kd_89) ?_
    refine tr_topi 0 (hI 89 2 (by decide +kernel)) ?_
    exact tr_iret zX251 dX10_size_99 rfl (by decide) (by decide) ⟨(by rw [show cz_szv 3 = 0 by decide +kernel]), rfl, rfl, rfl, fun k hk => ⟨by first | rfl | (repeat rw [cz_uIn (by omega)]), by first | rfl | (repeat rw [cz_uRn (by omega)])⟩⟩
  · skip
    refine tr_iload_n dX10_size_0 rfl ?_
    refine tr_tabIn (off := 99) 100 dX10_size_1 (by decide +kernel) (by decide +kernel) (by decide +kernel) (by decide) ?_
    refine tr_aload_n dX10_size_100 rfl ?_
    refine tr_getR (x := 2) dX10_size_101 fl10_16 (hK 0 10 (by decide) kd_0) (hR 0 2 (some 2) (by decide +kernel) rf_0_2) ?_
    refine tr_getI dX10_size_104 fl10_106 (hK 2 0 (by decide) kd_2) ?_
    refine tr_topi 0 (hI 2 5 (by decide +kernel)) ?_
    exact tr_iret zX251 dX10_size_107 rfl (by decide) (by decide) ⟨(by rw [show cz_szv 4 = 0 by decide +kernel]), rfl, rfl, rfl, fun k hk => ⟨by first | rfl | (repeat rw [cz_uIn (by omega)]), by first | rfl | (repeat rw [cz_uRn (by omega)])⟩⟩
  · skip
    refine tr_iload_n dX10_size_0 rfl ?_
    refine tr_tabIn (off := 107) 108 dX10_size_1 (by decide +kernel) (by decide +kernel) (by decide +kernel) (by decide) ?_
    refine tr_aload_n dX10_size_108 rfl ?_
    refine tr_getR (x := 2) dX10_size_109 fl10_16 (hK 0 10 (by decide) kd_0) (hR 0 2 (some 2) (by decide +kernel) rf_0_2) ?_
    refine tr_getI dX10_size_112 fl10_335 (hK 2 0 (by decide) kd_2) ?_
    refine tr_topi 0 (hI 2 9 (by decide +kernel)) ?_
    exact tr_iret zX251 dX10_size_115 rfl (by decide) (by decide) ⟨(by rw [show cz_szv 5 = 0 by decide +kernel]), rfl, rfl, rfl, fun k hk => ⟨by first | rfl | (repeat rw [cz_uIn (by omega)]), by first | rfl | (repeat rw [cz_uRn (by omega)])⟩⟩
  · skip
    refine tr_iload_n dX10_size_0 rfl ?_
    refine tr_tabIn (off := 115) 116 dX10_size_1 (by decide +kernel) (by decide +kernel) (by decide +kernel) (by decide) ?_
    refine tr_aload_n dX10_size_116 rfl ?_
    refine tr_getR (x := 2) dX10_size_117 fl10_16 (hK 0 10 (by decide) kd_0) (hR 0 2 (some 2) (by decide +kernel) rf_0_2) ?_
    refine tr_getI dX10_size_120 fl10_278 (hK 2 0 (by decide) kd_2) ?_
    refine tr_topi 0 (hI 2 11 (by decide +kernel)) ?_
    exact tr_iret zX251 dX10_size_123 rfl (by decide) (by decide) ⟨(by rw [show cz_szv 6 = 0 by decide +kernel]), rfl, rfl, rfl, fun k hk => ⟨by first | rfl | (repeat rw [cz_uIn (by omega)]), by first | rfl | (repeat rw [cz_uRn (by omega)])⟩⟩
  · skip
    refine tr_iload_n dX10_size_0 rfl ?_
    refine tr_tabIn (off := 123) 124 dX10_size_1 (by decide +kernel) (by decide +kernel) (by decide +kernel) (by decide) ?_
    refine tr_aload_n dX10_size_124 rfl ?_
    refine tr_getR (x := 2) dX10_size_125 fl10_16 (hK 0 10 (by decide) kd_0) (hR 0 2 (some 2) (by decide +kernel) rf_0_2) ?_
    refine tr_getI dX10_size_128 fl10_338 (hK 2 0 (by decide) kd_2) ?_
    refine tr_topi 0 (hI 2 13 (by decide +kernel)) ?_
    exact tr_iret zX251 dX10_size_131 rfl (by decide) (by decide) ⟨(by rw [show cz_szv 7 = 0 by decide +kernel]), rfl, rfl, rfl, fun k hk => ⟨by first | rfl | (repeat rw [cz_uIn (by omega)]), by first | rfl | (repeat rw [cz_uRn (by omega)])⟩⟩
  · skip
    refine tr_iload_n dX10_size_0 rfl ?_
    refine tr_tabIn (off := 131) 132 dX10_size_1 (by decide +kernel) (by decide +kernel) (by decide +kernel) (by decide) ?_
    refine tr_aload_n dX10_size_132 rfl ?_
    refine tr_getR (x := 2) dX10_size_133 fl10_16 (hK 0 10 (by decide) kd_0) (hR 0 2 (some 2) (by decide +kernel) rf_0_2) ?_
    refine tr_getR (x := 6) dX10_size_136 fl10_341 (hK 2 0 (by decide) kd_2) (hR 2 8 (some 6) (by decide +kernel) rf_2_8) ?_
    refine tr_getI dX10_size_139 fl10_345 (hK 6 4 (by decide) kd_6) ?_
    refine tr_topi 0 (hI 6 0 (by decide +kernel)) ?_
    exact tr_iret zX251 dX10_size_142 rfl (by decide) (by decide) ⟨(by rw [show cz_szv 8 = 0 by decide +kernel]), rfl, rfl, rfl, fun k hk => ⟨by first | rfl | (repeat rw [cz_uIn (by omega)]), by first | rfl | (repeat rw [cz_uRn (by omega)])⟩⟩
  · skip
    refine tr_iload_n dX10_size_0 rfl ?_
    refine tr_tabIn (off := 142) 143 dX10_size_1 (by decide +kernel) (by decide +kernel) (by decide +kernel) (by decide) ?_
    refine tr_aload_n dX10_size_143 rfl ?_
    refine tr_getR (x := 89) dX10_size_144 fl10_35 (hK 0 10 (by decide) kd_0) (hR 0 6 (some 89) (by decide +kernel) rf_0_6) ?_
    refine tr_getI dX10_size_147 fl10_269 (hK 89 3 (by decide) kd_89) ?_
    refine tr_topi 0 (hI 89 1 (by decide +kernel)) ?_
    exact tr_iret zX251 dX10_size_150 rfl (by decide) (by decide) ⟨(by rw [show cz_szv 9 = 0 by decide +kernel]), rfl, rfl, rfl, fun k hk => ⟨by first | rfl | (repeat rw [cz_uIn (by omega)]), by first | rfl | (repeat rw [cz_uRn (by omega)])⟩⟩
  · skip
    refine tr_iload_n dX10_size_0 rfl ?_
    refine tr_tabIn (off := 150) 151 dX10_size_1 (by decide +kernel) (by decide +kernel) (by decide +kernel) (by decide) ?_
    refine tr_aload_n dX10_size_151 rfl ?_
    refine tr_getR (x := 92) dX10_size_152 fl10_42 (hK 0 10 (by decide) kd_0) (hR 0 7 (some 92) (by decide +kernel) rf_0_7) ?_
    refine tr_getI dX10_size_155 fl10_350 (hK 92 6 (by decide) kd_92) ?_
    refine tr_topi 0 (hI 92 0 (by decide +kernel)) ?_
    exact tr_iret zX251 dX10_size_158 rfl (by decide) (by decide) ⟨(by rw [show cz_szv 10 = 0 by decide +kernel]), rfl, rfl, rfl, fun k hk => ⟨by first | rfl | (repeat rw [cz_uIn (by omega)]), by first | rfl | (repeat rw [cz_uRn (by omega)])⟩⟩
  · skip
    refine tr_iload_n dX10_size_0 rfl ?_
    refine tr_tabIn (off := 158) 159 dX10_size_1 (by decide +kernel) (by decide +kernel) (by decide +kernel) (by decide) ?_
    refine tr_aload_n dX10_size_159 rfl ?_
    refine tr_getR (x := 92) dX10_size_160 fl10_42 (hK 0 10 (by decide) kd_0) (hR 0 7 (some 92) (by decide +kernel) rf_0_7) ?_
    refine tr_getI dX10_size_163 fl10_353 (hK 92 6 (by decide) kd_92) ?_
    refine tr_topi 0 (hI 92 2 (by decide +kernel)) ?_
    exact tr_iret zX251 dX10_size_166 rfl (by decide) (by decide) ⟨(by rw [show cz_szv 11 = 0 by decide +kernel]), rfl, rfl, rfl, fun k hk => ⟨by first | rfl | (repeat rw [cz_uIn (by omega)]), by first | rfl | (repeat rw [cz_uRn (by omega)])⟩⟩
  · skip
    refine tr_iload_n dX10_size_0 rfl ?_
    refine tr_tabIn (off := 166) 167 dX10_size_1 (by decide +kernel) (by decide +kernel) (by decide +kernel) (by decide) ?_
    refine tr_aload_n dX10_size_167 rfl ?_
    refine tr_getI dX10_size_168 fl10_71 (hK 0 10 (by decide) kd_0) ?_
    refine tr_topi 0 (hI 0 1 (by decide +kernel)) ?_
    exact tr_iret zX251 dX10_size_171 rfl (by decide) (by decide) ⟨(by rw [show cz_szv 12 = 0 by decide +kernel]), rfl, rfl, rfl, fun k hk => ⟨by first | rfl | (repeat rw [cz_uIn (by omega)]), by first | rfl | (repeat rw [cz_uRn (by omega)])⟩⟩
set_option maxHeartbeats 4000000 in
set_option maxRecDepth 100000 in
theorem fX12_size (a : Int32) {l : Launch} {K N : Nat → Nat} {I : cz_I} {R : cz_R} {L : cz_L} (hf : cz_f2 K N I R) : Con l mX12_size [.ref 183, .int a] 203 K N I R L (fun r _ _ _ _ _ _ => r = some (.int (cz_szv a))) := by
  obtain ⟨hK, hN, hR, hI, hI2⟩ := hf
  refine Con.of (by decide +kernel) rfl (Nat.le_of_ble_eq_true rfl) rfl (fun X252 hX252 zX252 => ?_)
  rcases cz_sz13 a with ha | ha | rfl | rfl | rfl | rfl | rfl | rfl | rfl | rfl | rfl | rfl | rfl | rfl | rfl
  · skip
    refine tr_aload_n dX12_size_0 rfl ?_
    refine tr_iconst (v := 0) dX12_size_1 (by decide +kernel) ?_
    refine tr_putI dX12_size_2 fl12_70 (hK 183 12 (by decide) kd_183) (Or.inl rfl) ?_
    refine tr_iload_n dX12_size_5 rfl ?_
    refine tr_bipush (v := 12) dX12_size_6 (by decide +kernel) ?_
    refine tr_icmp_ne 16 dX12_size_8 (by decide) (fun q253 => ?_) (fun q253 => ?_)
    · skip
      refine tr_iload_n dX12_size_16 rfl ?_
      refine tr_iconst (v := 0) dX12_size_17 (by decide +kernel) ?_
      refine tr_bipush (v := 11) dX12_size_18 (by decide +kernel) ?_
      refine tr_inSi (M' := mX12_in) (as := [_, _, _]) dX12_size_20 lk12_149 inX12_in myX12_in ⟨by decide, by decide⟩ rfl (Nat.le_of_ble_eq_true rfl) (by decide) (by decide) (Con.of (by decide +kernel) rfl (Nat.le_of_ble_eq_true rfl) rfl (fun X254 hX254 zX254 => ?_))
      refine tr_iload_n dX12_in_0 rfl ?_
      refine tr_iload_n dX12_in_1 rfl ?_
      refine tr_icmp_lt 14 dX12_in_2 (by decide) (fun q255 => ?_) (fun q255 => ?_)
      · skip
        refine tr_iconst (v := 0) dX12_in_14 (by decide +kernel) ?_
        refine tr_zret zX254 dX12_in_15 rfl (Or.inl rfl) (by decide) (by decide) ⟨_, rfl, ?_⟩
        refine tr_if_ne 28 dX12_size_23 (by decide) (fun h => absurd (by decide +kernel) h) (fun _ => ?_)
        refine tr_iconst (v := (-1)) dX12_size_26 (by decide +kernel) ?_
        exact tr_iret zX252 dX12_size_27 rfl (by decide) (by decide) (by rw [show cz_szv a = -1 from cz_szl ha])
      · skip
        exfalso
        have e0 : ((0 : Int32)).toInt = 0 := by decide +kernel
        have e1 : ((12 : Int32)).toInt = 12 := by decide +kernel
        simp only [Int32.lt_iff_toInt_lt, Int32.le_iff_toInt_le, ← Int32.toInt_inj] at q255
        simp only [Int32.lt_iff_toInt_lt, Int32.le_iff_toInt_le, ← Int32.toInt_inj] at ha
        simp only [Int32.lt_iff_toInt_lt, Int32.le_iff_toInt_le, ← Int32.toInt_inj] at q253
        omega
    · skip
      exfalso
      have e0 : ((0 : Int32)).toInt = 0 := by decide +kernel
      have e1 : ((12 : Int32)).toInt = 12 := by decide +kernel
      simp only [Int32.lt_iff_toInt_lt, Int32.le_iff_toInt_le, ← Int32.toInt_inj] at q253
      simp only [Int32.lt_iff_toInt_lt, Int32.le_iff_toInt_le, ← Int32.toInt_inj] at ha
      omega
  · skip
    refine tr_aload_n dX12_size_0 rfl ?_
    refine tr_iconst (v := 0) dX12_size_1 (by decide +kernel) ?_
    refine tr_putI dX12_size_2 fl12_70 (hK 183 12 (by decide) kd_183) (Or.inl rfl) ?_
    refine tr_iload_n dX12_size_5 rfl ?_
    refine tr_bipush (v := 12) dX12_size_6 (by decide +kernel) ?_
    refine tr_icmp_ne 16 dX12_size_8 (by decide) (fun q256 => ?_) (fun q256 => ?_)
    · skip
      refine tr_iload_n dX12_size_16 rfl ?_
      refine tr_iconst (v := 0) dX12_size_17 (by decide +kernel) ?_
      refine tr_bipush (v := 11) dX12_size_18 (by decide +kernel) ?_
      refine tr_inSi (M' := mX12_in) (as := [_, _, _]) dX12_size_20 lk12_149 inX12_in myX12_in ⟨by decide, by decide⟩ rfl (Nat.le_of_ble_eq_true rfl) (by decide) (by decide) (Con.of (by decide +kernel) rfl (Nat.le_of_ble_eq_true rfl) rfl (fun X257 hX257 zX257 => ?_))
      refine tr_iload_n dX12_in_0 rfl ?_
      refine tr_iload_n dX12_in_1 rfl ?_
      refine tr_icmp_lt 14 dX12_in_2 (by decide) (fun q258 => ?_) (fun q258 => ?_)
      · skip
        exfalso
        have e0 : ((0 : Int32)).toInt = 0 := by decide +kernel
        have e1 : ((12 : Int32)).toInt = 12 := by decide +kernel
        simp only [Int32.lt_iff_toInt_lt, Int32.le_iff_toInt_le, ← Int32.toInt_inj] at q258
        simp only [Int32.lt_iff_toInt_lt, Int32.le_iff_toInt_le, ← Int32.toInt_inj] at ha
        simp only [Int32.lt_iff_toInt_lt, Int32.le_iff_toInt_le, ← Int32.toInt_inj] at q256
        omega
      · skip
        refine tr_iload_n dX12_in_5 rfl ?_
        refine tr_iload_n dX12_in_6 rfl ?_
        refine tr_icmp_gt 14 dX12_in_7 (by decide) (fun q259 => ?_) (fun q259 => ?_)
        · skip
          refine tr_iconst (v := 0) dX12_in_14 (by decide +kernel) ?_
          refine tr_zret zX257 dX12_in_15 rfl (Or.inl rfl) (by decide) (by decide) ⟨_, rfl, ?_⟩
          refine tr_if_ne 28 dX12_size_23 (by decide) (fun h => absurd (by decide +kernel) h) (fun _ => ?_)
          refine tr_iconst (v := (-1)) dX12_size_26 (by decide +kernel) ?_
          exact tr_iret zX252 dX12_size_27 rfl (by decide) (by decide) (by rw [show cz_szv a = -1 from cz_szr ha])
        · skip
          exfalso
          have e0 : ((0 : Int32)).toInt = 0 := by decide +kernel
          have e1 : ((11 : Int32)).toInt = 11 := by decide +kernel
          have e2 : ((12 : Int32)).toInt = 12 := by decide +kernel
          simp only [Int32.lt_iff_toInt_lt, Int32.le_iff_toInt_le, ← Int32.toInt_inj] at q259
          simp only [Int32.lt_iff_toInt_lt, Int32.le_iff_toInt_le, ← Int32.toInt_inj] at ha
          simp only [Int32.lt_iff_toInt_lt, Int32.le_iff_toInt_le, ← Int32.toInt_inj] at q256
          simp only [Int32.lt_iff_toInt_lt, Int32.le_iff_toInt_le, ← Int32.toInt_inj] at q258
          omega
    · skip
      exfalso
      have e0 : ((0 : Int32)).toInt = 0 := by decide +kernel
      have e1 : ((12 : Int32)).toInt = 12 := by decide +kernel
      simp only [Int32.lt_iff_toInt_lt, Int32.le_iff_toInt_le, ← Int32.toInt_inj] at q256
      simp only [Int32.lt_iff_toInt_lt, Int32.le_iff_toInt_le, ← Int32.toInt_inj] at ha
      omega
  · skip
    refine tr_aload_n dX12_size_0 rfl ?_
    refine tr_iconst (v := 0) dX12_size_1 (by decide +kernel) ?_
    refine tr_putI dX12_size_2 fl12_70 (hK 183 12 (by decide) kd_183) (Or.inl rfl) ?_
    refine tr_iload_n dX12_size_5 rfl ?_
    refine tr_bipush (v := 12) dX12_size_6 (by decide +kernel) ?_
    refine tr_icmp_ne 16 dX12_size_8 (by decide) (fun _ => ?_) (fun h => absurd h (by decide +kernel))
    refine tr_iload_n dX12_size_16 rfl ?_
    refine tr_iconst (v := 0) dX12_size_17 (by decide +kernel) ?_
    refine tr_bipush (v := 11) dX12_size_18 (by decide +kernel) ?_
    refine tr_inSi (M' := mX12_in) (as := [_, _, _]) dX12_size_20 lk12_149 inX12_in myX12_in ⟨by decide, by decide⟩ rfl (Nat.le_of_ble_eq_true rfl) (by decide) (by decide) (Con.of (by decide +kernel) rfl (Nat.le_of_ble_eq_true rfl) rfl (fun X260 hX260 zX260 => ?_))
    refine tr_iload_n dX12_in_0 rfl ?_
    refine tr_iload_n dX12_in_1 rfl ?_
    refine tr_icmp_lt 14 dX12_in_2 (by decide) (fun h => absurd h (by decide +kernel)) (fun _ => ?_)
    refine tr_iload_n dX12_in_5 rfl ?_
    refine tr_iload_n dX12_in_6 rfl ?_
    refine tr_icmp_gt 14 dX12_in_7 (by decide) (fun h => absurd h (by decide +kernel)) (fun _ => ?_)
    refine tr_iconst (v := 1) dX12_in_10 (by decide +kernel) ?_
    refine tr_goto 15 dX12_in_11 (by decide) ?_
    refine tr_zret zX260 dX12_in_15 rfl (Or.inr rfl) (by decide) (by decide) ⟨_, rfl, ?_⟩
    refine tr_if_ne 28 dX12_size_23 (by decide) (fun _ => ?_) (fun h => absurd h (by decide +kernel))
    refine tr_aload_n dX12_size_28 rfl ?_
    refine tr_getN dX12_size_29 fl12_385 (hK 183 12 (by decide) kd_183) (hR 183 3 none (by decide +kernel) (by decide +kernel)) ?_
    refine tr_ifnonnullN dX12_size_32 ?_
    refine tr_iconst (v := 0) dX12_size_35 (by decide +kernel) ?_
    exact tr_iret zX252 dX12_size_36 rfl (by decide) (by decide) (by rw [show cz_szv 0 = 0 by decide +kernel])
  · skip
    refine tr_aload_n dX12_size_0 rfl ?_
    refine tr_iconst (v := 0) dX12_size_1 (by decide +kernel) ?_
    refine tr_putI dX12_size_2 fl12_70 (hK 183 12 (by decide) kd_183) (Or.inl rfl) ?_
    refine tr_iload_n dX12_size_5 rfl ?_
    refine tr_bipush (v := 12) dX12_size_6 (by decide +kernel) ?_
    refine tr_icmp_ne 16 dX12_size_8 (by decide) (fun _ => ?_) (fun h => absurd h (by decide +kernel))
    refine tr_iload_n dX12_size_16 rfl ?_
    refine tr_iconst (v := 0) dX12_size_17 (by decide +kernel) ?_
    refine tr_bipush (v := 11) dX12_size_18 (by decide +kernel) ?_
    refine tr_inSi (M' := mX12_in) (as := [_, _, _]) dX12_size_20 lk12_149 inX12_in myX12_in ⟨by decide, by decide⟩ rfl (Nat.le_of_ble_eq_true rfl) (by decide) (by decide) (Con.of (by decide +kernel) rfl (Nat.le_of_ble_eq_true rfl) rfl (fun X261 hX261 zX261 => ?_))
    refine tr_iload_n dX12_in_0 rfl ?_
    refine tr_iload_n dX12_in_1 rfl ?_
    refine tr_icmp_lt 14 dX12_in_2 (by decide) (fun h => absurd h (by decide +kernel)) (fun _ => ?_)
    refine tr_iload_n dX12_in_5 rfl ?_
    refine tr_iload_n dX12_in_6 rfl ?_
    refine tr_icmp_gt 14 dX12_in_7 (by decide) (fun h => absurd h (by decide +kernel)) (fun _ => ?_)
    refine tr_iconst (v := 1) dX12_in_10 (by decide +kernel) ?_
    refine tr_goto 15 dX12_in_11 (by decide) ?_
    refine tr_zret zX261 dX12_in_15 rfl (Or.inr rfl) (by decide) (by decide) ⟨_, rfl, ?_⟩
    refine tr_if_ne 28 dX12_size_23 (by decide) (fun _ => ?_) (fun h => absurd h (by decide +kernel))
    refine tr_aload_n dX12_size_28 rfl ?_
    refine tr_getN dX12_size_29 fl12_385 (hK 183 12 (by decide) kd_183) (hR 183 3 none (by decide +kernel) (by decide +kernel)) ?_
    refine tr_ifnonnullN dX12_size_32 ?_
    refine tr_iconst (v := 0) dX12_size_35 (by decide +kernel) ?_
    exact tr_iret zX252 dX12_size_36 rfl (by decide) (by decide) (by rw [show cz_szv 1 = 0 by decide +kernel])
  · skip
    refine tr_aload_n dX12_size_0 rfl ?_
    refine tr_iconst (v := 0) dX12_size_1 (by decide +kernel) ?_
    refine tr_putI dX12_size_2 fl12_70 (hK 183 12 (by decide) kd_183) (Or.inl rfl) ?_
    refine tr_iload_n dX12_size_5 rfl ?_
    refine tr_bipush (v := 12) dX12_size_6 (by decide +kernel) ?_
    refine tr_icmp_ne 16 dX12_size_8 (by decide) (fun _ => ?_) (fun h => absurd h (by decide +kernel))
    refine tr_iload_n dX12_size_16 rfl ?_
    refine tr_iconst (v := 0) dX12_size_17 (by decide +kernel) ?_
    refine tr_bipush (v := 11) dX12_size_18 (by decide +kernel) ?_
    refine tr_inSi (M' := mX12_in) (as := [_, _, _]) dX12_size_20 lk12_149 inX12_in myX12_in ⟨by decide, by decide⟩ rfl (Nat.le_of_ble_eq_true rfl) (by decide) (by decide) (Con.of (by decide +kernel) rfl (Nat.le_of_ble_eq_true rfl) rfl (fun X262 hX262 zX262 => ?_))
    refine tr_iload_n dX12_in_0 rfl ?_
    refine tr_iload_n dX12_in_1 rfl ?_
    refine tr_icmp_lt 14 dX12_in_2 (by decide) (fun h => absurd h (by decide +kernel)) (fun _ => ?_)
    refine tr_iload_n dX12_in_5 rfl ?_
    refine tr_iload_n dX12_in_6 rfl ?_
    refine tr_icmp_gt 14 dX12_in_7 (by decide) (fun h => absurd h (by decide +kernel)) (fun _ => ?_)
    refine tr_iconst (v := 1) dX12_in_10 (by decide +kernel) ?_
    refine tr_goto 15 dX12_in_11 (by decide) ?_
    refine tr_zret zX262 dX12_in_15 rfl (Or.inr rfl) (by decide) (by decide) ⟨_, rfl, ?_⟩
    refine tr_if_ne 28 dX12_size_23 (by decide) (fun _ => ?_) (fun h => absurd h (by decide +kernel))
    refine tr_aload_n dX12_size_28 rfl ?_
    refine tr_getN dX12_size_29 fl12_385 (hK 183 12 (by decide) kd_183) (hR 183 3 none (by decide +kernel) (by decide +kernel)) ?_
    refine tr_ifnonnullN dX12_size_32 ?_
    refine tr_iconst (v := 0) dX12_size_35 (by decide +kernel) ?_
    exact tr_iret zX252 dX12_size_36 rfl (by decide) (by decide) (by rw [show cz_szv 2 = 0 by decide +kernel])
  · skip
    refine tr_aload_n dX12_size_0 rfl ?_
    refine tr_iconst (v := 0) dX12_size_1 (by decide +kernel) ?_
    refine tr_putI dX12_size_2 fl12_70 (hK 183 12 (by decide) kd_183) (Or.inl rfl) ?_
    refine tr_iload_n dX12_size_5 rfl ?_
    refine tr_bipush (v := 12) dX12_size_6 (by decide +kernel) ?_
    refine tr_icmp_ne 16 dX12_size_8 (by decide) (fun _ => ?_) (fun h => absurd h (by decide +kernel))
    refine tr_iload_n dX12_size_16 rfl ?_
    refine tr_iconst (v := 0) dX12_size_17 (by decide +kernel) ?_
    refine tr_bipush (v := 11) dX12_size_18 (by decide +kernel) ?_
    refine tr_inSi (M' := mX12_in) (as := [_, _, _]) dX12_size_20 lk12_149 inX12_in myX12_in ⟨by decide, by decide⟩ rfl (Nat.le_of_ble_eq_true rfl) (by decide) (by decide) (Con.of (by decide +kernel) rfl (Nat.le_of_ble_eq_true rfl) rfl (fun X263 hX263 zX263 => ?_))
    refine tr_iload_n dX12_in_0 rfl ?_
    refine tr_iload_n dX12_in_1 rfl ?_
    refine tr_icmp_lt 14 dX12_in_2 (by decide) (fun h => absurd h (by decide +kernel)) (fun _ => ?_)
    refine tr_iload_n dX12_in_5 rfl ?_
    refine tr_iload_n dX12_in_6 rfl ?_
    refine tr_icmp_gt 14 dX12_in_7 (by decide) (fun h => absurd h (by decide +kernel)) (fun _ => ?_)
    refine tr_iconst (v := 1) dX12_in_10 (by decide +kernel) ?_
    refine tr_goto 15 dX12_in_11 (by decide) ?_
    refine tr_zret zX263 dX12_in_15 rfl (Or.inr rfl) (by decide) (by decide) ⟨_, rfl, ?_⟩
    refine tr_if_ne 28 dX12_size_23 (by decide) (fun _ => ?_) (fun h => absurd h (by decide +kernel))
    refine tr_aload_n dX12_size_28 rfl ?_
    refine tr_getN dX12_size_29 fl12_385 (hK 183 12 (by decide) kd_183) (hR 183 3 none (by decide +kernel) (by decide +kernel)) ?_
    refine tr_ifnonnullN dX12_size_32 ?_
    refine tr_iconst (v := 0) dX12_size_35 (by decide +kernel) ?_
    exact tr_iret zX252 dX12_size_36 rfl (by decide) (by decide) (by rw [show cz_szv 3 = 0 by decide +kernel])
  · skip
    refine tr_aload_n dX12_size_0 rfl ?_
    refine tr_iconst (v := 0) dX12_size_1 (by decide +kernel) ?_
    refine tr_putI dX12_size_2 fl12_70 (hK 183 12 (by decide) kd_183) (Or.inl rfl) ?_
    refine tr_iload_n dX12_size_5 rfl ?_
    refine tr_bipush (v := 12) dX12_size_6 (by decide +kernel) ?_
    refine tr_icmp_ne 16 dX12_size_8 (by decide) (fun _ => ?_) (fun h => absurd h (by decide +kernel))
    refine tr_iload_n dX12_size_16 rfl ?_
    refine tr_iconst (v := 0) dX12_size_17 (by decide +kernel) ?_
    refine tr_bipush (v := 11) dX12_size_18 (by decide +kernel) ?_
    refine tr_inSi (M' := mX12_in) (as := [_, _, _]) dX12_size_20 lk12_149 inX12_in myX12_in ⟨by decide, by decide⟩ rfl (Nat.le_of_ble_eq_true rfl) (by decide) (by decide) (Con.of (by decide +kernel) rfl (Nat.le_of_ble_eq_true rfl) rfl (fun X264 hX264 zX264 => ?_))
    refine tr_iload_n dX12_in_0 rfl ?_
    refine tr_iload_n dX12_in_1 rfl ?_
    refine tr_icmp_lt 14 dX12_in_2 (by decide) (fun h => absurd h (by decide +kernel)) (fun _ => ?_)
    refine tr_iload_n dX12_in_5 rfl ?_
    refine tr_iload_n dX12_in_6 rfl ?_
    refine tr_icmp_gt 14 dX12_in_7 (by decide) (fun h => absurd h (by decide +kernel)) (fun _ => ?_)
    refine tr_iconst (v := 1) dX12_in_10 (by decide +kernel) ?_
    refine tr_goto 15 dX12_in_11 (by decide) ?_
    refine tr_zret zX264 dX12_in_15 rfl (Or.inr rfl) (by decide) (by decide) ⟨_, rfl, ?_⟩
    refine tr_if_ne 28 dX12_size_23 (by decide) (fun _ => ?_) (fun h => absurd h (by decide +kernel))
    refine tr_aload_n dX12_size_28 rfl ?_
    refine tr_getN dX12_size_29 fl12_385 (hK 183 12 (by decide) kd_183) (hR 183 3 none (by decide +kernel) (by decide +kernel)) ?_
    refine tr_ifnonnullN dX12_size_32 ?_
    refine tr_iconst (v := 0) dX12_size_35 (by decide +kernel) ?_
    exact tr_iret zX252 dX12_size_36 rfl (by decide) (by decide) (by rw [show cz_szv 4 = 0 by decide +kernel])
  · skip
    refine tr_aload_n dX12_size_0 rfl ?_
    refine tr_iconst (v := 0) dX12_size_1 (by decide +kernel) ?_
    refine tr_putI dX12_size_2 fl12_70 (hK 183 12 (by decide) kd_183) (Or.inl rfl) ?_
    refine tr_iload_n dX12_size_5 rfl ?_
    refine tr_bipush (v := 12) dX12_size_6 (by decide +kernel) ?_
    refine tr_icmp_ne 16 dX12_size_8 (by decide) (fun _ => ?_) (fun h => absurd h (by decide +kernel))
    refine tr_iload_n dX12_size_16 rfl ?_
    refine tr_iconst (v := 0) dX12_size_17 (by decide +kernel) ?_
    refine tr_bipush (v := 11) dX12_size_18 (by decide +kernel) ?_
    refine tr_inSi (M' := mX12_in) (as := [_, _, _]) dX12_size_20 lk12_149 inX12_in myX12_in ⟨by decide, by decide⟩ rfl (Nat.le_of_ble_eq_true rfl) (by decide) (by decide) (Con.of (by decide +kernel) rfl (Nat.le_of_ble_eq_true rfl) rfl (fun X265 hX265 zX265 => ?_))
    refine tr_iload_n dX12_in_0 rfl ?_
    refine tr_iload_n dX12_in_1 rfl ?_
    refine tr_icmp_lt 14 dX12_in_2 (by decide) (fun h => absurd h (by decide +kernel)) (fun _ => ?_)
    refine tr_iload_n dX12_in_5 rfl ?_
    refine tr_iload_n dX12_in_6 rfl ?_
    refine tr_icmp_gt 14 dX12_in_7 (by decide) (fun h => absurd h (by decide +kernel)) (fun _ => ?_)
    refine tr_iconst (v := 1) dX12_in_10 (by decide +kernel) ?_
    refine tr_goto 15 dX12_in_11 (by decide) ?_
    refine tr_zret zX265 dX12_in_15 rfl (Or.inr rfl) (by decide) (by decide) ⟨_, rfl, ?_⟩
    refine tr_if_ne 28 dX12_size_23 (by decide) (fun _ => ?_) (fun h => absurd h (by decide +kernel))
    refine tr_aload_n dX12_size_28 rfl ?_
    refine tr_getN dX12_size_29 fl12_385 (hK 183 12 (by decide) kd_183) (hR 183 3 none (by decide +kernel) (by decide +kernel)) ?_
    refine tr_ifnonnullN dX12_size_32 ?_
    refine tr_iconst (v := 0) dX12_size_35 (by decide +kernel) ?_
    exact tr_iret zX252 dX12_size_36 rfl (by decide) (by decide) (by rw [show cz_szv 5 = 0 by decide +kernel])
  · skip
    refine tr_aload_n dX12_size_0 rfl ?_
    refine tr_iconst (v := 0) dX12_size_1 (by decide +kernel) ?_
    refine tr_putI dX12_size_2 fl12_70 (hK 183 12 (by decide) kd_183) (Or.inl rfl) ?_
    refine tr_iload_n dX12_size_5 rfl ?_
    refine tr_bipush (v := 12) dX12_size_6 (by decide +kernel) ?_
    refine tr_icmp_ne 16 dX12_size_8 (by decide) (fun _ => ?_) (fun h => absurd h (by decide +kernel))
    refine tr_iload_n dX12_size_16 rfl ?_
    refine tr_iconst (v := 0) dX12_size_17 (by decide +kernel) ?_
    refine tr_bipush (v := 11) dX12_size_18 (by decide +kernel) ?_
    refine tr_inSi (M' := mX12_in) (as := [_, _, _]) dX12_size_20 lk12_149 inX12_in myX12_in ⟨by decide, by decide⟩ rfl (Nat.le_of_ble_eq_true rfl) (by decide) (by decide) (Con.of (by decide +kernel) rfl (Nat.le_of_ble_eq_true rfl) rfl (fun X266 hX266 zX266 => ?_))
    refine tr_iload_n dX12_in_0 rfl ?_
    refine tr_iload_n dX12_in_1 rfl ?_
    refine tr_icmp_lt 14 dX12_in_2 (by decide) (fun h => absurd h (by decide +kernel)) (fun _ => ?_)
    refine tr_iload_n dX12_in_5 rfl ?_
    refine tr_iload_n dX12_in_6 rfl ?_
    refine tr_icmp_gt 14 dX12_in_7 (by decide) (fun h => absurd h (by decide +kernel)) (fun _ => ?_)
    refine tr_iconst (v := 1) dX12_in_10 (by decide +kernel) ?_
    refine tr_goto 15 dX12_in_11 (by decide) ?_
    refine tr_zret zX266 dX12_in_15 rfl (Or.inr rfl) (by decide) (by decide) ⟨_, rfl, ?_⟩
    refine tr_if_ne 28 dX12_size_23 (by decide) (fun _ => ?_) (fun h => absurd h (by decide +kernel))
    refine tr_aload_n dX12_size_28 rfl ?_
    refine tr_getN dX12_size_29 fl12_385 (hK 183 12 (by decide) kd_183) (hR 183 3 none (by decide +kernel) (by decide +kernel)) ?_
    refine tr_ifnonnullN dX12_size_32 ?_
    refine tr_iconst (v := 0) dX12_size_35 (by decide +kernel) ?_
    exact tr_iret zX252 dX12_size_36 rfl (by decide) (by decide) (by rw [show cz_szv 6 = 0 by decide +kernel])
  · skip
    refine tr_aload_n dX12_size_0 rfl ?_
    refine tr_iconst (v := 0) dX12_size_1 (by decide +kernel) ?_
    refine tr_putI dX12_size_2 fl12_70 (hK 183 12 (by decide) kd_183) (Or.inl rfl) ?_
    refine tr_iload_n dX12_size_5 rfl ?_
    refine tr_bipush (v := 12) dX12_size_6 (by decide +kernel) ?_
    refine tr_icmp_ne 16 dX12_size_8 (by decide) (fun _ => ?_) (fun h => absurd h (by decide +kernel))
    refine tr_iload_n dX12_size_16 rfl ?_
    refine tr_iconst (v := 0) dX12_size_17 (by decide +kernel) ?_
    refine tr_bipush (v := 11) dX12_size_18 (by decide +kernel) ?_
    refine tr_inSi (M' := mX12_in) (as := [_, _, _]) dX12_size_20 lk12_149 inX12_in myX12_in ⟨by decide, by decide⟩ rfl (Nat.le_of_ble_eq_true rfl) (by decide) (by decide) (Con.of (by decide +kernel) rfl (Nat.le_of_ble_eq_true rfl) rfl (fun X267 hX267 zX267 => ?_))
    refine tr_iload_n dX12_in_0 rfl ?_
    refine tr_iload_n dX12_in_1 rfl ?_
    refine tr_icmp_lt 14 dX12_in_2 (by decide) (fun h => absurd h (by decide +kernel)) (fun _ => ?_)
    refine tr_iload_n dX12_in_5 rfl ?_
    refine tr_iload_n dX12_in_6 rfl ?_
    refine tr_icmp_gt 14 dX12_in_7 (by decide) (fun h => absurd h (by decide +kernel)) (fun _ => ?_)
    refine tr_iconst (v := 1) dX12_in_10 (by decide +kernel) ?_
    refine tr_goto 15 dX12_in_11 (by decide) ?_
    refine tr_zret zX267 dX12_in_15 rfl (Or.inr rfl) (by decide) (by decide) ⟨_, rfl, ?_⟩
    refine tr_if_ne 28 dX12_size_23 (by decide) (fun _ => ?_) (fun h => absurd h (by decide +kernel))
    refine tr_aload_n dX12_size_28 rfl ?_
    refine tr_getN dX12_size_29 fl12_385 (hK 183 12 (by decide) kd_183) (hR 183 3 none (by decide +kernel) (by decide +kernel)) ?_
    refine tr_ifnonnullN dX12_size_32 ?_
    refine tr_iconst (v := 0) dX12_size_35 (by decide +kernel) ?_
    exact tr_iret zX252 dX12_size_36 rfl (by decide) (by decide) (by rw [show cz_szv 7 = 0 by decide +kernel])
  · skip
    refine tr_aload_n dX12_size_0 rfl ?_
    refine tr_iconst (v := 0) dX12_size_1 (by decide +kernel) ?_
    refine tr_putI dX12_size_2 fl12_70 (hK 183 12 (by decide) kd_183) (Or.inl rfl) ?_
    refine tr_iload_n dX12_size_5 rfl ?_
    refine tr_bipush (v := 12) dX12_size_6 (by decide +kernel) ?_
    refine tr_icmp_ne 16 dX12_size_8 (by decide) (fun _ => ?_) (fun h => absurd h (by decide +kernel))
    refine tr_iload_n dX12_size_16 rfl ?_
    refine tr_iconst (v := 0) dX12_size_17 (by decide +kernel) ?_
    refine tr_bipush (v := 11) dX12_size_18 (by decide +kernel) ?_
    refine tr_inSi (M' := mX12_in) (as := [_, _, _]) dX12_size_20 lk12_149 inX12_in myX12_in ⟨by decide, by decide⟩ rfl (Nat.le_of_ble_eq_true rfl) (by decide) (by decide) (Con.of (by decide +kernel) rfl (Nat.le_of_ble_eq_true rfl) rfl (fun X268 hX268 zX268 => ?_))
    refine tr_iload_n dX12_in_0 rfl ?_
    refine tr_iload_n dX12_in_1 rfl ?_
    refine tr_icmp_lt 14 dX12_in_2 (by decide) (fun h => absurd h (by decide +kernel)) (fun _ => ?_)
    refine tr_iload_n dX12_in_5 rfl ?_
    refine tr_iload_n dX12_in_6 rfl ?_
    refine tr_icmp_gt 14 dX12_in_7 (by decide) (fun h => absurd h (by decide +kernel)) (fun _ => ?_)
    refine tr_iconst (v := 1) dX12_in_10 (by decide +kernel) ?_
    refine tr_goto 15 dX12_in_11 (by decide) ?_
    refine tr_zret zX268 dX12_in_15 rfl (Or.inr rfl) (by decide) (by decide) ⟨_, rfl, ?_⟩
    refine tr_if_ne 28 dX12_size_23 (by decide) (fun _ => ?_) (fun h => absurd h (by decide +kernel))
    refine tr_aload_n dX12_size_28 rfl ?_
    refine tr_getN dX12_size_29 fl12_385 (hK 183 12 (by decide) kd_183) (hR 183 3 none (by decide +kernel) (by decide +kernel)) ?_
    refine tr_ifnonnullN dX12_size_32 ?_
    refine tr_iconst (v := 0) dX12_size_35 (by decide +kernel) ?_
    exact tr_iret zX252 dX12_size_36 rfl (by decide) (by decide) (by rw [show cz_szv 8 = 0 by decide +kernel])
  · skip
    refine tr_aload_n dX12_size_0 rfl ?_
    refine tr_iconst (v := 0) dX12_size_1 (by decide +kernel) ?_
    refine tr_putI dX12_size_2 fl12_70 (hK 183 12 (by decide) kd_183) (Or.inl rfl) ?_
    refine tr_iload_n dX12_size_5 rfl ?_
    refine tr_bipush (v := 12) dX12_size_6 (by decide +kernel) ?_
    refine tr_icmp_ne 16 dX12_size_8 (by decide) (fun _ => ?_) (fun h => absurd h (by decide +kernel))
    refine tr_iload_n dX12_size_16 rfl ?_
    refine tr_iconst (v := 0) dX12_size_17 (by decide +kernel) ?_
    refine tr_bipush (v := 11) dX12_size_18 (by decide +kernel) ?_
    refine tr_inSi (M' := mX12_in) (as := [_, _, _]) dX12_size_20 lk12_149 inX12_in myX12_in ⟨by decide, by decide⟩ rfl (Nat.le_of_ble_eq_true rfl) (by decide) (by decide) (Con.of (by decide +kernel) rfl (Nat.le_of_ble_eq_true rfl) rfl (fun X269 hX269 zX269 => ?_))
    refine tr_iload_n dX12_in_0 rfl ?_
    refine tr_iload_n dX12_in_1 rfl ?_
    refine tr_icmp_lt 14 dX12_in_2 (by decide) (fun h => absurd h (by decide +kernel)) (fun _ => ?_)
    refine tr_iload_n dX12_in_5 rfl ?_
    refine tr_iload_n dX12_in_6 rfl ?_
    refine tr_icmp_gt 14 dX12_in_7 (by decide) (fun h => absurd h (by decide +kernel)) (fun _ => ?_)
    refine tr_iconst (v := 1) dX12_in_10 (by decide +kernel) ?_
    refine tr_goto 15 dX12_in_11 (by decide) ?_
    refine tr_zret zX269 dX12_in_15 rfl (Or.inr rfl) (by decide) (by decide) ⟨_, rfl, ?_⟩
    refine tr_if_ne 28 dX12_size_23 (by decide) (fun _ => ?_) (fun h => absurd h (by decide +kernel))
    refine tr_aload_n dX12_size_28 rfl ?_
    refine tr_getN dX12_size_29 fl12_385 (hK 183 12 (by decide) kd_183) (hR 183 3 none (by decide +kernel) (by decide +kernel)) ?_
    refine tr_ifnonnullN dX12_size_32 ?_
    refine tr_iconst (v := 0) dX12_size_35 (by decide +kernel) ?_
    exact tr_iret zX252 dX12_size_36 rfl (by decide) (by decide) (by rw [show cz_szv 9 = 0 by decide +kernel])
  · skip
    refine tr_aload_n dX12_size_0 rfl ?_
    refine tr_iconst (v := 0) dX12_size_1 (by decide +kernel) ?_
    refine tr_putI dX12_size_2 fl12_70 (hK 183 12 (by decide) kd_183) (Or.inl rfl) ?_
    refine tr_iload_n dX12_size_5 rfl ?_
    refine tr_bipush (v := 12) dX12_size_6 (by decide +kernel) ?_
    refine tr_icmp_ne 16 dX12_size_8 (by decide) (fun _ => ?_) (fun h => absurd h (by decide +kernel))
    refine tr_iload_n dX12_size_16 rfl ?_
    refine tr_iconst (v := 0) dX12_size_17 (by decide +kernel) ?_
    refine tr_bipush (v := 11) dX12_size_18 (by decide +kernel) ?_
    refine tr_inSi (M' := mX12_in) (as := [_, _, _]) dX12_size_20 lk12_149 inX12_in myX12_in ⟨by decide, by decide⟩ rfl (Nat.le_of_ble_eq_true rfl) (by decide) (by decide) (Con.of (by decide +kernel) rfl (Nat.le_of_ble_eq_true rfl) rfl (fun X270 hX270 zX270 => ?_))
    refine tr_iload_n dX12_in_0 rfl ?_
    refine tr_iload_n dX12_in_1 rfl ?_
    refine tr_icmp_lt 14 dX12_in_2 (by decide) (fun h => absurd h (by decide +kernel)) (fun _ => ?_)
    refine tr_iload_n dX12_in_5 rfl ?_
    refine tr_iload_n dX12_in_6 rfl ?_
    refine tr_icmp_gt 14 dX12_in_7 (by decide) (fun h => absurd h (by decide +kernel)) (fun _ => ?_)
    refine tr_iconst (v := 1) dX12_in_10 (by decide +kernel) ?_
    refine tr_goto 15 dX12_in_11 (by decide) ?_
    refine tr_zret zX270 dX12_in_15 rfl (Or.inr rfl) (by decide) (by decide) ⟨_, rfl, ?_⟩
    refine tr_if_ne 28 dX12_size_23 (by decide) (fun _ => ?_) (fun h => absurd h (by decide +kernel))
    refine tr_aload_n dX12_size_28 rfl ?_
    refine tr_getN dX12_size_29 fl12_385 (hK 183 12 (by decide) kd_183) (hR 183 3 none (by decide +kernel) (by decide +kernel)) ?_
    refine tr_ifnonnullN dX12_size_32 ?_
    refine tr_iconst (v := 0) dX12_size_35 (by decide +kernel) ?_
    exact tr_iret zX252 dX12_size_36 rfl (by decide) (by decide) (by rw [show cz_szv 10 = 0 by decide +kernel])
  · skip
    refine tr_aload_n dX12_size_0 rfl ?_
    refine tr_iconst (v := 0) dX12_size_1 (by decide +kernel) ?_
    refine tr_putI dX12_size_2 fl12_70 (hK 183 12 (by decide) kd_183) (Or.inl rfl) ?_
    refine tr_iload_n dX12_size_5 rfl ?_
    refine tr_bipush (v := 12) dX12_size_6 (by decide +kernel) ?_
    refine tr_icmp_ne 16 dX12_size_8 (by decide) (fun _ => ?_) (fun h => absurd h (by decide +kernel))
    refine tr_iload_n dX12_size_16 rfl ?_
    refine tr_iconst (v := 0) dX12_size_17 (by decide +kernel) ?_
    refine tr_bipush (v := 11) dX12_size_18 (by decide +kernel) ?_
    refine tr_inSi (M' := mX12_in) (as := [_, _, _]) dX12_size_20 lk12_149 inX12_in myX12_in ⟨by decide, by decide⟩ rfl (Nat.le_of_ble_eq_true rfl) (by decide) (by decide) (Con.of (by decide +kernel) rfl (Nat.le_of_ble_eq_true rfl) rfl (fun X271 hX271 zX271 => ?_))
    refine tr_iload_n dX12_in_0 rfl ?_
    refine tr_iload_n dX12_in_1 rfl ?_
    refine tr_icmp_lt 14 dX12_in_2 (by decide) (fun h => absurd h (by decide +kernel)) (fun _ => ?_)
    refine tr_iload_n dX12_in_5 rfl ?_
    refine tr_iload_n dX12_in_6 rfl ?_
    refine tr_icmp_gt 14 dX12_in_7 (by decide) (fun h => absurd h (by decide +kernel)) (fun _ => ?_)
    refine tr_iconst (v := 1) dX12_in_10 (by decide +kernel) ?_
    refine tr_goto 15 dX12_in_11 (by decide) ?_
    refine tr_zret zX271 dX12_in_15 rfl (Or.inr rfl) (by decide) (by decide) ⟨_, rfl, ?_⟩
    refine tr_if_ne 28 dX12_size_23 (by decide) (fun _ => ?_) (fun h => absurd h (by decide +kernel))
    refine tr_aload_n dX12_size_28 rfl ?_
    refine tr_getN dX12_size_29 fl12_385 (hK 183 12 (by decide) kd_183) (hR 183 3 none (by decide +kernel) (by decide +kernel)) ?_
    refine tr_ifnonnullN dX12_size_32 ?_
    refine tr_iconst (v := 0) dX12_size_35 (by decide +kernel) ?_
    exact tr_iret zX252 dX12_size_36 rfl (by decide) (by decide) (by rw [show cz_szv 11 = 0 by decide +kernel])
  · skip
    refine tr_aload_n dX12_size_0 rfl ?_
    refine tr_iconst (v := 0) dX12_size_1 (by decide +kernel) ?_
    refine tr_putI dX12_size_2 fl12_70 (hK 183 12 (by decide) kd_183) (Or.inl rfl) ?_
    refine tr_iload_n dX12_size_5 rfl ?_
    refine tr_bipush (v := 12) dX12_size_6 (by decide +kernel) ?_
    refine tr_icmp_ne 16 dX12_size_8 (by decide) (fun h => absurd (by decide +kernel) h) (fun _ => ?_)
    refine tr_aload_n dX12_size_11 rfl ?_
    refine tr_getI dX12_size_12 fl12_378 (hK 183 12 (by decide) kd_183) ?_
    refine tr_topi 0 (hI 183 6 (by decide +kernel)) ?_
    exact tr_iret zX252 dX12_size_15 rfl (by decide) (by decide) (by rw [show cz_szv 12 = 0 by decide +kernel])
set_option maxHeartbeats 4000000 in
set_option maxRecDepth 100000 in
theorem fX10_trouble {l : Launch} {K N : Nat → Nat} {I : cz_I} {R : cz_R} {L : cz_L} (hf : cz_f1 K N I R) : Con l mX10_trouble [.ref 0] 203 K N I R L (fun r cn' K' N' I' R' _ => r = some (.int (0)) ∧ cn' = 203 ∧ K' = K ∧ N' = N ∧ ∀ k : Nat, 183 ≤ k → I' k = I k ∧ R' k = R k) := by
  obtain ⟨hK, hN, hR, hI⟩ := hf
  refine Con.of (by decide +kernel) rfl (Nat.le_of_ble_eq_true rfl) rfl (fun X272 hX272 zX272 => ?_)
  refine tr_aload_n dX10_trouble_0 rfl ?_
  refine tr_getI dX10_trouble_1 fl10_112 (hK 0 10 (by decide) kd_0) ?_
  refine tr_topi 0 (hI 0 17 (by decide +kernel)) ?_
  exact tr_iret zX272 dX10_trouble_4 rfl (by decide) (by decide) ⟨rfl, rfl, rfl, rfl, fun k hk => ⟨by first | rfl | (repeat rw [cz_uIn (by omega)]), by first | rfl | (repeat rw [cz_uRn (by omega)])⟩⟩
set_option maxHeartbeats 4000000 in
set_option maxRecDepth 100000 in
theorem fX12_trouble {l : Launch} {K N : Nat → Nat} {I : cz_I} {R : cz_R} {L : cz_L} (hf : cz_f2 K N I R) : Con l mX12_trouble [.ref 183] 203 K N I R L (fun r _ _ _ _ _ _ => r = some (.int (0))) := by
  obtain ⟨hK, hN, hR, hI, hI2⟩ := hf
  refine Con.of (by decide +kernel) rfl (Nat.le_of_ble_eq_true rfl) rfl (fun X273 hX273 zX273 => ?_)
  refine tr_aload_n dX12_trouble_0 rfl ?_
  refine tr_iconst (v := 0) dX12_trouble_1 (by decide +kernel) ?_
  refine tr_putI dX12_trouble_2 fl12_70 (hK 183 12 (by decide) kd_183) (Or.inl rfl) ?_
  refine tr_aload_n dX12_trouble_5 rfl ?_
  refine tr_getI dX12_trouble_6 fl12_73 (hK 183 12 (by decide) kd_183) ?_
  refine tr_topi 0 (hI 183 1 (by decide +kernel)) ?_
  exact tr_iret zX273 dX12_trouble_9 rfl (by decide) (by decide) rfl
end
