section
-- ===== PART A: goes FIRST, ahead of the names: the tables' words, and 'selects' of the private methods out of them =====
/-- a private method of a class that the tables say can be made, by its rows of tables_1 -/
def lw_okq (q : MethodName × Nat) : Prop := (q.1.cls ≠ "java/lang/invoke/MethodHandle" ∧ q.1.cls ≠ "java/lang/invoke/VarHandle") ∧ Cond.instantiable q.1.cls q.2 ∈ tables_1 ∧ Cond.privateMethod q.1 ∈ tables_1 ∧ Cond.instanceMethod q.1 ∈ tables_1
theorem lw_p0 : lw_okq (⟨"TreeActs", "isActing", "(I)Z"⟩, 12) := ⟨⟨by decide +kernel, by decide +kernel⟩, List.mem_of_getElem? (i := 17) (by decide +kernel), List.mem_of_getElem? (i := 315) (by decide +kernel), List.mem_of_getElem? (i := 316) (by decide +kernel)⟩
theorem lw_p1 : lw_okq (⟨"TreeActs", "isWordOnPage", "()Z"⟩, 12) := ⟨⟨by decide +kernel, by decide +kernel⟩, List.mem_of_getElem? (i := 17) (by decide +kernel), List.mem_of_getElem? (i := 322) (by decide +kernel), List.mem_of_getElem? (i := 323) (by decide +kernel)⟩
theorem lw_p2 : lw_okq (⟨"TreeActs$Plan", "nextsOf", "(I)I"⟩, 5) := ⟨⟨by decide +kernel, by decide +kernel⟩, List.mem_of_getElem? (i := 39) (by decide +kernel), List.mem_of_getElem? (i := 372) (by decide +kernel), List.mem_of_getElem? (i := 373) (by decide +kernel)⟩
theorem lw_p3 : lw_okq (⟨"TreeActs$Plan", "goesOn", "(II)I"⟩, 5) := ⟨⟨by decide +kernel, by decide +kernel⟩, List.mem_of_getElem? (i := 39) (by decide +kernel), List.mem_of_getElem? (i := 376) (by decide +kernel), List.mem_of_getElem? (i := 377) (by decide +kernel)⟩
theorem lw_p4 : lw_okq (⟨"TreeActs$Plan", "findAlike", "()V"⟩, 5) := ⟨⟨by decide +kernel, by decide +kernel⟩, List.mem_of_getElem? (i := 39) (by decide +kernel), List.mem_of_getElem? (i := 389) (by decide +kernel), List.mem_of_getElem? (i := 390) (by decide +kernel)⟩
theorem lw_p5 : lw_okq (⟨"TreeActs$Plan", "leastThatSeemsAlike", "(I)I"⟩, 5) := ⟨⟨by decide +kernel, by decide +kernel⟩, List.mem_of_getElem? (i := 39) (by decide +kernel), List.mem_of_getElem? (i := 393) (by decide +kernel), List.mem_of_getElem? (i := 394) (by decide +kernel)⟩
theorem lw_p6 : lw_okq (⟨"TreeActs$Plan", "flipsFirst", "(I)Z"⟩, 5) := ⟨⟨by decide +kernel, by decide +kernel⟩, List.mem_of_getElem? (i := 39) (by decide +kernel), List.mem_of_getElem? (i := 397) (by decide +kernel), List.mem_of_getElem? (i := 398) (by decide +kernel)⟩
theorem lw_p7 : lw_okq (⟨"TreeActs$Plan", "leastBehind", "(II)I"⟩, 5) := ⟨⟨by decide +kernel, by decide +kernel⟩, List.mem_of_getElem? (i := 39) (by decide +kernel), List.mem_of_getElem? (i := 401) (by decide +kernel), List.mem_of_getElem? (i := 402) (by decide +kernel)⟩
theorem lw_p8 : lw_okq (⟨"TreeActs$Plan", "rowAfterLetter", "(III)I"⟩, 5) := ⟨⟨by decide +kernel, by decide +kernel⟩, List.mem_of_getElem? (i := 39) (by decide +kernel), List.mem_of_getElem? (i := 455) (by decide +kernel), List.mem_of_getElem? (i := 456) (by decide +kernel)⟩
theorem lw_p9 : lw_okq (⟨"TreeActs$Plan", "letterBehind", "(II)I"⟩, 5) := ⟨⟨by decide +kernel, by decide +kernel⟩, List.mem_of_getElem? (i := 39) (by decide +kernel), List.mem_of_getElem? (i := 460) (by decide +kernel), List.mem_of_getElem? (i := 461) (by decide +kernel)⟩
theorem lw_p10 : lw_okq (⟨"TreeActs$Search", "find", "(LTreeActs$Letters;)V"⟩, 5) := ⟨⟨by decide +kernel, by decide +kernel⟩, List.mem_of_getElem? (i := 91) (by decide +kernel), List.mem_of_getElem? (i := 482) (by decide +kernel), List.mem_of_getElem? (i := 483) (by decide +kernel)⟩
theorem lw_p11 : lw_okq (⟨"TreeActs$Search", "pack", "(LTreeActs$Letters;)V"⟩, 5) := ⟨⟨by decide +kernel, by decide +kernel⟩, List.mem_of_getElem? (i := 91) (by decide +kernel), List.mem_of_getElem? (i := 486) (by decide +kernel), List.mem_of_getElem? (i := 487) (by decide +kernel)⟩
theorem lw_p12 : lw_okq (⟨"TreeActs$Search", "isPackedAt", "(I)Z"⟩, 5) := ⟨⟨by decide +kernel, by decide +kernel⟩, List.mem_of_getElem? (i := 91) (by decide +kernel), List.mem_of_getElem? (i := 492) (by decide +kernel), List.mem_of_getElem? (i := 493) (by decide +kernel)⟩
theorem lw_p13 : lw_okq (⟨"TreeActs$Search", "unpack", "(I)V"⟩, 5) := ⟨⟨by decide +kernel, by decide +kernel⟩, List.mem_of_getElem? (i := 91) (by decide +kernel), List.mem_of_getElem? (i := 497) (by decide +kernel), List.mem_of_getElem? (i := 498) (by decide +kernel)⟩
theorem lw_p14 : lw_okq (⟨"TreeActs", "drawWordToScratch", "()V"⟩, 12) := ⟨⟨by decide +kernel, by decide +kernel⟩, List.mem_of_getElem? (i := 17) (by decide +kernel), List.mem_of_getElem? (i := 583) (by decide +kernel), List.mem_of_getElem? (i := 584) (by decide +kernel)⟩
theorem lw_p15 : lw_okq (⟨"TreeActs", "lettersOfAllWords", "()I"⟩, 12) := ⟨⟨by decide +kernel, by decide +kernel⟩, List.mem_of_getElem? (i := 17) (by decide +kernel), List.mem_of_getElem? (i := 630) (by decide +kernel), List.mem_of_getElem? (i := 631) (by decide +kernel)⟩
def lw_privs_1 : List (MethodName × Nat) := [(⟨"TreeActs", "isActing", "(I)Z"⟩, 12), (⟨"TreeActs", "isWordOnPage", "()Z"⟩, 12), (⟨"TreeActs$Plan", "nextsOf", "(I)I"⟩, 5), (⟨"TreeActs$Plan", "goesOn", "(II)I"⟩, 5), (⟨"TreeActs$Plan", "findAlike", "()V"⟩, 5), (⟨"TreeActs$Plan", "leastThatSeemsAlike", "(I)I"⟩, 5), (⟨"TreeActs$Plan", "flipsFirst", "(I)Z"⟩, 5), (⟨"TreeActs$Plan", "leastBehind", "(II)I"⟩, 5), (⟨"TreeActs$Plan", "rowAfterLetter", "(III)I"⟩, 5), (⟨"TreeActs$Plan", "letterBehind", "(II)I"⟩, 5), (⟨"TreeActs$Search", "find", "(LTreeActs$Letters;)V"⟩, 5), (⟨"TreeActs$Search", "pack", "(LTreeActs$Letters;)V"⟩, 5), (⟨"TreeActs$Search", "isPackedAt", "(I)Z"⟩, 5), (⟨"TreeActs$Search", "unpack", "(I)V"⟩, 5), (⟨"TreeActs", "drawWordToScratch", "()V"⟩, 12), (⟨"TreeActs", "lettersOfAllWords", "()I"⟩, 12)]
theorem lw_r1 : ∀ q ∈ lw_privs_1, lw_okq q := List.forall_mem_cons.mpr ⟨lw_p0, List.forall_mem_cons.mpr ⟨lw_p1, List.forall_mem_cons.mpr ⟨lw_p2, List.forall_mem_cons.mpr ⟨lw_p3, List.forall_mem_cons.mpr ⟨lw_p4, List.forall_mem_cons.mpr ⟨lw_p5, List.forall_mem_cons.mpr ⟨lw_p6, List.forall_mem_cons.mpr ⟨lw_p7, List.forall_mem_cons.mpr ⟨lw_p8, List.forall_mem_cons.mpr ⟨lw_p9, List.forall_mem_cons.mpr ⟨lw_p10, List.forall_mem_cons.mpr ⟨lw_p11, List.forall_mem_cons.mpr ⟨lw_p12, List.forall_mem_cons.mpr ⟨lw_p13, List.forall_mem_cons.mpr ⟨lw_p14, List.forall_mem_cons.mpr ⟨lw_p15, fun _ h => absurd h List.not_mem_nil⟩⟩⟩⟩⟩⟩⟩⟩⟩⟩⟩⟩⟩⟩⟩⟩
theorem lw_p16 : lw_okq (⟨"TreeActs", "digestOfWord", "(JI)J"⟩, 12) := ⟨⟨by decide +kernel, by decide +kernel⟩, List.mem_of_getElem? (i := 17) (by decide +kernel), List.mem_of_getElem? (i := 641) (by decide +kernel), List.mem_of_getElem? (i := 642) (by decide +kernel)⟩
theorem lw_p17 : lw_okq (⟨"TreeActsModel", "isAimed", "(I)Z"⟩, 30) := ⟨⟨by decide +kernel, by decide +kernel⟩, List.mem_of_getElem? (i := 650) (by decide +kernel), List.mem_of_getElem? (i := 774) (by decide +kernel), List.mem_of_getElem? (i := 775) (by decide +kernel)⟩
theorem lw_p18 : lw_okq (⟨"TreeActsModel", "isWord", "(I)Z"⟩, 30) := ⟨⟨by decide +kernel, by decide +kernel⟩, List.mem_of_getElem? (i := 650) (by decide +kernel), List.mem_of_getElem? (i := 785) (by decide +kernel), List.mem_of_getElem? (i := 786) (by decide +kernel)⟩
theorem lw_p19 : lw_okq (⟨"TreeActsModel", "letterOf", "(I)I"⟩, 30) := ⟨⟨by decide +kernel, by decide +kernel⟩, List.mem_of_getElem? (i := 650) (by decide +kernel), List.mem_of_getElem? (i := 789) (by decide +kernel), List.mem_of_getElem? (i := 790) (by decide +kernel)⟩
theorem lw_p20 : lw_okq (⟨"TreeActsModel", "begin", "()V"⟩, 30) := ⟨⟨by decide +kernel, by decide +kernel⟩, List.mem_of_getElem? (i := 650) (by decide +kernel), List.mem_of_getElem? (i := 793) (by decide +kernel), List.mem_of_getElem? (i := 794) (by decide +kernel)⟩
theorem lw_p21 : lw_okq (⟨"TreeActsModel", "comes", "(I)V"⟩, 30) := ⟨⟨by decide +kernel, by decide +kernel⟩, List.mem_of_getElem? (i := 650) (by decide +kernel), List.mem_of_getElem? (i := 797) (by decide +kernel), List.mem_of_getElem? (i := 798) (by decide +kernel)⟩
theorem lw_p22 : lw_okq (⟨"TreeActsModel", "keepMade", "(I)I"⟩, 30) := ⟨⟨by decide +kernel, by decide +kernel⟩, List.mem_of_getElem? (i := 650) (by decide +kernel), List.mem_of_getElem? (i := 801) (by decide +kernel), List.mem_of_getElem? (i := 802) (by decide +kernel)⟩
theorem lw_p23 : lw_okq (⟨"TreeActsModel", "isState", "(I)Z"⟩, 30) := ⟨⟨by decide +kernel, by decide +kernel⟩, List.mem_of_getElem? (i := 650) (by decide +kernel), List.mem_of_getElem? (i := 809) (by decide +kernel), List.mem_of_getElem? (i := 810) (by decide +kernel)⟩
theorem lw_p24 : lw_okq (⟨"TreeActsModel", "stateNow", "(II)I"⟩, 30) := ⟨⟨by decide +kernel, by decide +kernel⟩, List.mem_of_getElem? (i := 650) (by decide +kernel), List.mem_of_getElem? (i := 813) (by decide +kernel), List.mem_of_getElem? (i := 814) (by decide +kernel)⟩
theorem lw_p25 : lw_okq (⟨"TreeActsModel", "reach", "(I)I"⟩, 30) := ⟨⟨by decide +kernel, by decide +kernel⟩, List.mem_of_getElem? (i := 650) (by decide +kernel), List.mem_of_getElem? (i := 817) (by decide +kernel), List.mem_of_getElem? (i := 818) (by decide +kernel)⟩
theorem lw_p26 : lw_okq (⟨"TreeActsModel", "nextOf", "(I)I"⟩, 30) := ⟨⟨by decide +kernel, by decide +kernel⟩, List.mem_of_getElem? (i := 650) (by decide +kernel), List.mem_of_getElem? (i := 821) (by decide +kernel), List.mem_of_getElem? (i := 822) (by decide +kernel)⟩
theorem lw_p27 : lw_okq (⟨"TreeActsModel", "goesOn", "(II)I"⟩, 30) := ⟨⟨by decide +kernel, by decide +kernel⟩, List.mem_of_getElem? (i := 650) (by decide +kernel), List.mem_of_getElem? (i := 825) (by decide +kernel), List.mem_of_getElem? (i := 826) (by decide +kernel)⟩
theorem lw_p28 : lw_okq (⟨"TreeActsModel", "leastAlike", "(I)I"⟩, 30) := ⟨⟨by decide +kernel, by decide +kernel⟩, List.mem_of_getElem? (i := 650) (by decide +kernel), List.mem_of_getElem? (i := 832) (by decide +kernel), List.mem_of_getElem? (i := 833) (by decide +kernel)⟩
theorem lw_p29 : lw_okq (⟨"TreeActsModel", "isAlike", "(II)Z"⟩, 30) := ⟨⟨by decide +kernel, by decide +kernel⟩, List.mem_of_getElem? (i := 650) (by decide +kernel), List.mem_of_getElem? (i := 836) (by decide +kernel), List.mem_of_getElem? (i := 837) (by decide +kernel)⟩
theorem lw_p30 : lw_okq (⟨"TreeActsModel", "actLetter", "(III)I"⟩, 30) := ⟨⟨by decide +kernel, by decide +kernel⟩, List.mem_of_getElem? (i := 650) (by decide +kernel), List.mem_of_getElem? (i := 840) (by decide +kernel), List.mem_of_getElem? (i := 841) (by decide +kernel)⟩
theorem lw_p31 : lw_okq (⟨"TreeActsModel", "flipOf", "(I)I"⟩, 30) := ⟨⟨by decide +kernel, by decide +kernel⟩, List.mem_of_getElem? (i := 650) (by decide +kernel), List.mem_of_getElem? (i := 844) (by decide +kernel), List.mem_of_getElem? (i := 845) (by decide +kernel)⟩
def lw_privs_2 : List (MethodName × Nat) := [(⟨"TreeActs", "digestOfWord", "(JI)J"⟩, 12), (⟨"TreeActsModel", "isAimed", "(I)Z"⟩, 30), (⟨"TreeActsModel", "isWord", "(I)Z"⟩, 30), (⟨"TreeActsModel", "letterOf", "(I)I"⟩, 30), (⟨"TreeActsModel", "begin", "()V"⟩, 30), (⟨"TreeActsModel", "comes", "(I)V"⟩, 30), (⟨"TreeActsModel", "keepMade", "(I)I"⟩, 30), (⟨"TreeActsModel", "isState", "(I)Z"⟩, 30), (⟨"TreeActsModel", "stateNow", "(II)I"⟩, 30), (⟨"TreeActsModel", "reach", "(I)I"⟩, 30), (⟨"TreeActsModel", "nextOf", "(I)I"⟩, 30), (⟨"TreeActsModel", "goesOn", "(II)I"⟩, 30), (⟨"TreeActsModel", "leastAlike", "(I)I"⟩, 30), (⟨"TreeActsModel", "isAlike", "(II)Z"⟩, 30), (⟨"TreeActsModel", "actLetter", "(III)I"⟩, 30), (⟨"TreeActsModel", "flipOf", "(I)I"⟩, 30)]
theorem lw_r2 : ∀ q ∈ lw_privs_2, lw_okq q := List.forall_mem_cons.mpr ⟨lw_p16, List.forall_mem_cons.mpr ⟨lw_p17, List.forall_mem_cons.mpr ⟨lw_p18, List.forall_mem_cons.mpr ⟨lw_p19, List.forall_mem_cons.mpr ⟨lw_p20, List.forall_mem_cons.mpr ⟨lw_p21, List.forall_mem_cons.mpr ⟨lw_p22, List.forall_mem_cons.mpr ⟨lw_p23, List.forall_mem_cons.mpr ⟨lw_p24, List.forall_mem_cons.mpr ⟨lw_p25, List.forall_mem_cons.mpr ⟨lw_p26, List.forall_mem_cons.mpr ⟨lw_p27, List.forall_mem_cons.mpr ⟨lw_p28, List.forall_mem_cons.mpr ⟨lw_p29, List.forall_mem_cons.mpr ⟨lw_p30, List.forall_mem_cons.mpr ⟨lw_p31, fun _ h => absurd h List.not_mem_nil⟩⟩⟩⟩⟩⟩⟩⟩⟩⟩⟩⟩⟩⟩⟩⟩
theorem lw_p32 : lw_okq (⟨"TreeActsModel", "letterOn", "(II)I"⟩, 30) := ⟨⟨by decide +kernel, by decide +kernel⟩, List.mem_of_getElem? (i := 650) (by decide +kernel), List.mem_of_getElem? (i := 848) (by decide +kernel), List.mem_of_getElem? (i := 849) (by decide +kernel)⟩
theorem lw_p33 : lw_okq (⟨"TreeActsModel", "sorts", "(I)I"⟩, 30) := ⟨⟨by decide +kernel, by decide +kernel⟩, List.mem_of_getElem? (i := 650) (by decide +kernel), List.mem_of_getElem? (i := 852) (by decide +kernel), List.mem_of_getElem? (i := 853) (by decide +kernel)⟩
theorem lw_p34 : lw_okq (⟨"TreeActsModel", "ask", "(I)I"⟩, 30) := ⟨⟨by decide +kernel, by decide +kernel⟩, List.mem_of_getElem? (i := 650) (by decide +kernel), List.mem_of_getElem? (i := 859) (by decide +kernel), List.mem_of_getElem? (i := 860) (by decide +kernel)⟩
theorem lw_p35 : lw_okq (⟨"TreeActsModel", "actWord", "(III)I"⟩, 30) := ⟨⟨by decide +kernel, by decide +kernel⟩, List.mem_of_getElem? (i := 650) (by decide +kernel), List.mem_of_getElem? (i := 891) (by decide +kernel), List.mem_of_getElem? (i := 892) (by decide +kernel)⟩
theorem lw_p36 : lw_okq (⟨"TreeActsModel", "flipsOf", "(II)I"⟩, 30) := ⟨⟨by decide +kernel, by decide +kernel⟩, List.mem_of_getElem? (i := 650) (by decide +kernel), List.mem_of_getElem? (i := 899) (by decide +kernel), List.mem_of_getElem? (i := 900) (by decide +kernel)⟩
theorem lw_p37 : lw_okq (⟨"TreeActsModel", "roundOf", "(III)I"⟩, 30) := ⟨⟨by decide +kernel, by decide +kernel⟩, List.mem_of_getElem? (i := 650) (by decide +kernel), List.mem_of_getElem? (i := 907) (by decide +kernel), List.mem_of_getElem? (i := 908) (by decide +kernel)⟩
theorem lw_p38 : lw_okq (⟨"TreeActsModel", "nothingOf", "(I)I"⟩, 30) := ⟨⟨by decide +kernel, by decide +kernel⟩, List.mem_of_getElem? (i := 650) (by decide +kernel), List.mem_of_getElem? (i := 915) (by decide +kernel), List.mem_of_getElem? (i := 916) (by decide +kernel)⟩
theorem lw_p39 : lw_okq (⟨"TreeActsModel", "comesWord", "(I)V"⟩, 30) := ⟨⟨by decide +kernel, by decide +kernel⟩, List.mem_of_getElem? (i := 650) (by decide +kernel), List.mem_of_getElem? (i := 919) (by decide +kernel), List.mem_of_getElem? (i := 920) (by decide +kernel)⟩
theorem lw_p40 : lw_okq (⟨"TreeActsModel", "isNothing", "()I"⟩, 30) := ⟨⟨by decide +kernel, by decide +kernel⟩, List.mem_of_getElem? (i := 650) (by decide +kernel), List.mem_of_getElem? (i := 923) (by decide +kernel), List.mem_of_getElem? (i := 924) (by decide +kernel)⟩
theorem lw_p41 : lw_okq (⟨"TreeActsModel", "enlist", "()V"⟩, 30) := ⟨⟨by decide +kernel, by decide +kernel⟩, List.mem_of_getElem? (i := 650) (by decide +kernel), List.mem_of_getElem? (i := 927) (by decide +kernel), List.mem_of_getElem? (i := 928) (by decide +kernel)⟩
theorem lw_p42 : lw_okq (⟨"TreeActsModel", "isListed", "(I)Z"⟩, 30) := ⟨⟨by decide +kernel, by decide +kernel⟩, List.mem_of_getElem? (i := 650) (by decide +kernel), List.mem_of_getElem? (i := 931) (by decide +kernel), List.mem_of_getElem? (i := 932) (by decide +kernel)⟩
theorem lw_p43 : lw_okq (⟨"TreeActsModel", "isFlipping", "(I)Z"⟩, 30) := ⟨⟨by decide +kernel, by decide +kernel⟩, List.mem_of_getElem? (i := 650) (by decide +kernel), List.mem_of_getElem? (i := 935) (by decide +kernel), List.mem_of_getElem? (i := 936) (by decide +kernel)⟩
theorem lw_p44 : lw_okq (⟨"TreeActsModel", "makeSection", "(II)V"⟩, 30) := ⟨⟨by decide +kernel, by decide +kernel⟩, List.mem_of_getElem? (i := 650) (by decide +kernel), List.mem_of_getElem? (i := 939) (by decide +kernel), List.mem_of_getElem? (i := 940) (by decide +kernel)⟩
theorem lw_p45 : lw_okq (⟨"TreeActsModel", "comesInverse", "(I)V"⟩, 30) := ⟨⟨by decide +kernel, by decide +kernel⟩, List.mem_of_getElem? (i := 650) (by decide +kernel), List.mem_of_getElem? (i := 947) (by decide +kernel), List.mem_of_getElem? (i := 948) (by decide +kernel)⟩
theorem lw_p46 : lw_okq (⟨"TreeActsModel", "orderOf", "(I)I"⟩, 30) := ⟨⟨by decide +kernel, by decide +kernel⟩, List.mem_of_getElem? (i := 650) (by decide +kernel), List.mem_of_getElem? (i := 955) (by decide +kernel), List.mem_of_getElem? (i := 956) (by decide +kernel)⟩
theorem lw_p47 : lw_okq (⟨"TreeActsModel", "drawnNow", "(III)I"⟩, 30) := ⟨⟨by decide +kernel, by decide +kernel⟩, List.mem_of_getElem? (i := 650) (by decide +kernel), List.mem_of_getElem? (i := 991) (by decide +kernel), List.mem_of_getElem? (i := 992) (by decide +kernel)⟩
def lw_privs_3 : List (MethodName × Nat) := [(⟨"TreeActsModel", "letterOn", "(II)I"⟩, 30), (⟨"TreeActsModel", "sorts", "(I)I"⟩, 30), (⟨"TreeActsModel", "ask", "(I)I"⟩, 30), (⟨"TreeActsModel", "actWord", "(III)I"⟩, 30), (⟨"TreeActsModel", "flipsOf", "(II)I"⟩, 30), (⟨"TreeActsModel", "roundOf", "(III)I"⟩, 30), (⟨"TreeActsModel", "nothingOf", "(I)I"⟩, 30), (⟨"TreeActsModel", "comesWord", "(I)V"⟩, 30), (⟨"TreeActsModel", "isNothing", "()I"⟩, 30), (⟨"TreeActsModel", "enlist", "()V"⟩, 30), (⟨"TreeActsModel", "isListed", "(I)Z"⟩, 30), (⟨"TreeActsModel", "isFlipping", "(I)Z"⟩, 30), (⟨"TreeActsModel", "makeSection", "(II)V"⟩, 30), (⟨"TreeActsModel", "comesInverse", "(I)V"⟩, 30), (⟨"TreeActsModel", "orderOf", "(I)I"⟩, 30), (⟨"TreeActsModel", "drawnNow", "(III)I"⟩, 30)]
theorem lw_r3 : ∀ q ∈ lw_privs_3, lw_okq q := List.forall_mem_cons.mpr ⟨lw_p32, List.forall_mem_cons.mpr ⟨lw_p33, List.forall_mem_cons.mpr ⟨lw_p34, List.forall_mem_cons.mpr ⟨lw_p35, List.forall_mem_cons.mpr ⟨lw_p36, List.forall_mem_cons.mpr ⟨lw_p37, List.forall_mem_cons.mpr ⟨lw_p38, List.forall_mem_cons.mpr ⟨lw_p39, List.forall_mem_cons.mpr ⟨lw_p40, List.forall_mem_cons.mpr ⟨lw_p41, List.forall_mem_cons.mpr ⟨lw_p42, List.forall_mem_cons.mpr ⟨lw_p43, List.forall_mem_cons.mpr ⟨lw_p44, List.forall_mem_cons.mpr ⟨lw_p45, List.forall_mem_cons.mpr ⟨lw_p46, List.forall_mem_cons.mpr ⟨lw_p47, fun _ h => absurd h List.not_mem_nil⟩⟩⟩⟩⟩⟩⟩⟩⟩⟩⟩⟩⟩⟩⟩⟩
theorem lw_p48 : lw_okq (⟨"TreeActsModel", "drawOf", "(I)I"⟩, 30) := ⟨⟨by decide +kernel, by decide +kernel⟩, List.mem_of_getElem? (i := 650) (by decide +kernel), List.mem_of_getElem? (i := 995) (by decide +kernel), List.mem_of_getElem? (i := 996) (by decide +kernel)⟩
theorem lw_p49 : lw_okq (⟨"TreeActsModel", "howMany", "(I)I"⟩, 30) := ⟨⟨by decide +kernel, by decide +kernel⟩, List.mem_of_getElem? (i := 650) (by decide +kernel), List.mem_of_getElem? (i := 1018) (by decide +kernel), List.mem_of_getElem? (i := 1019) (by decide +kernel)⟩
theorem lw_p50 : lw_okq (⟨"TreeActsModel", "classes", "()I"⟩, 30) := ⟨⟨by decide +kernel, by decide +kernel⟩, List.mem_of_getElem? (i := 650) (by decide +kernel), List.mem_of_getElem? (i := 1022) (by decide +kernel), List.mem_of_getElem? (i := 1023) (by decide +kernel)⟩
theorem lw_p51 : lw_okq (⟨"TreeActsModel", "core", "()I"⟩, 30) := ⟨⟨by decide +kernel, by decide +kernel⟩, List.mem_of_getElem? (i := 650) (by decide +kernel), List.mem_of_getElem? (i := 1026) (by decide +kernel), List.mem_of_getElem? (i := 1027) (by decide +kernel)⟩
theorem lw_p52 : lw_okq (⟨"TreeActsModel", "mix", "(J)V"⟩, 30) := ⟨⟨by decide +kernel, by decide +kernel⟩, List.mem_of_getElem? (i := 650) (by decide +kernel), List.mem_of_getElem? (i := 1035) (by decide +kernel), List.mem_of_getElem? (i := 1036) (by decide +kernel)⟩
theorem lw_p53 : lw_okq (⟨"TreeActsModel", "mixWord", "(I)V"⟩, 30) := ⟨⟨by decide +kernel, by decide +kernel⟩, List.mem_of_getElem? (i := 650) (by decide +kernel), List.mem_of_getElem? (i := 1040) (by decide +kernel), List.mem_of_getElem? (i := 1041) (by decide +kernel)⟩
def lw_privs_4 : List (MethodName × Nat) := [(⟨"TreeActsModel", "drawOf", "(I)I"⟩, 30), (⟨"TreeActsModel", "howMany", "(I)I"⟩, 30), (⟨"TreeActsModel", "classes", "()I"⟩, 30), (⟨"TreeActsModel", "core", "()I"⟩, 30), (⟨"TreeActsModel", "mix", "(J)V"⟩, 30), (⟨"TreeActsModel", "mixWord", "(I)V"⟩, 30)]
theorem lw_r4 : ∀ q ∈ lw_privs_4, lw_okq q := List.forall_mem_cons.mpr ⟨lw_p48, List.forall_mem_cons.mpr ⟨lw_p49, List.forall_mem_cons.mpr ⟨lw_p50, List.forall_mem_cons.mpr ⟨lw_p51, List.forall_mem_cons.mpr ⟨lw_p52, List.forall_mem_cons.mpr ⟨lw_p53, fun _ h => absurd h List.not_mem_nil⟩⟩⟩⟩⟩⟩
def lw_privs : List (MethodName × Nat) := lw_privs_1 ++ (lw_privs_2 ++ (lw_privs_3 ++ (lw_privs_4)))
def lw_tbl : List Cond := k2_sels lw_privs ++ tables_1
theorem lw_privs_ok : ∀ q ∈ lw_privs, lw_okq q := by
  show ∀ q ∈ lw_privs_1 ++ (lw_privs_2 ++ (lw_privs_3 ++ (lw_privs_4))), lw_okq q
  exact List.forall_mem_append.mpr ⟨lw_r1, List.forall_mem_append.mpr ⟨lw_r2, List.forall_mem_append.mpr ⟨lw_r3, lw_r4⟩⟩⟩
end
section
def RX0 : String := "TreeActs$Draws"
def TX0 : u_T := fun k => match k with
  | _ => ("TreeActs$Draws", "seed", "J", false)
def tyX0 : Nat → FieldType := fun k => match k with
  | _ => .long
theorem nmX0 : ∀ a, a < 1 → ∀ b, b < 1 → a ≠ b → (TX0 a).2.1 ≠ (TX0 b).2.1 := by decide +kernel
theorem tyX0_ok : ∀ k, k < 1 → parseFieldDescriptor (TX0 k).2.2.1 = some (tyX0 k) := by decide +kernel
abbrev cX0_init : ByteArray := prog_2_method_1_code
def yX0_init : MethodName := ⟨RX0, "<init>", "()V"⟩
abbrev cX0_startAt : ByteArray := prog_2_method_2_code
def yX0_startAt : MethodName := ⟨RX0, "startAt", "(I)V"⟩
abbrev cX0_seedNow : ByteArray := prog_2_method_3_code
def yX0_seedNow : MethodName := ⟨RX0, "seedNow", "()I"⟩
abbrev cX0_below : ByteArray := prog_2_method_4_code
def yX0_below : MethodName := ⟨RX0, "below", "(I)I"⟩
def RX1 : String := "TreeActs$Letters"
def TX1 : u_T := fun k => match k with
  | 0 => ("TreeActs$Letters", "letters", "[I", true)
  | _ => ("TreeActs$Letters", "size", "I", false)
def tyX1 : Nat → FieldType := fun k => match k with
  | 0 => .array .int
  | _ => .int
theorem nmX1 : ∀ a, a < 2 → ∀ b, b < 2 → a ≠ b → (TX1 a).2.1 ≠ (TX1 b).2.1 := by decide +kernel
theorem tyX1_ok : ∀ k, k < 2 → parseFieldDescriptor (TX1 k).2.2.1 = some (tyX1 k) := by decide +kernel
abbrev cX1_init : ByteArray := prog_3_method_1_code
def yX1_init : MethodName := ⟨RX1, "<init>", "(I)V"⟩
abbrev cX1_size : ByteArray := prog_3_method_2_code
def yX1_size : MethodName := ⟨RX1, "size", "()I"⟩
abbrev cX1_at : ByteArray := prog_3_method_3_code
def yX1_at : MethodName := ⟨RX1, "at", "(I)I"⟩
abbrev cX1_clear : ByteArray := prog_3_method_4_code
def yX1_clear : MethodName := ⟨RX1, "clear", "()V"⟩
abbrev cX1_addAsIs : ByteArray := prog_3_method_5_code
def yX1_addAsIs : MethodName := ⟨RX1, "addAsIs", "(I)V"⟩
abbrev cX1_addReduced : ByteArray := prog_3_method_6_code
def yX1_addReduced : MethodName := ⟨RX1, "addReduced", "(I)V"⟩
abbrev cX1_addAll : ByteArray := prog_3_method_7_code
def yX1_addAll : MethodName := ⟨RX1, "addAll", "(LTreeActs$Letters;)V"⟩
abbrev cX1_addUndone : ByteArray := prog_3_method_8_code
def yX1_addUndone : MethodName := ⟨RX1, "addUndone", "(LTreeActs$Letters;)V"⟩
abbrev cX1_copyFrom : ByteArray := prog_3_method_9_code
def yX1_copyFrom : MethodName := ⟨RX1, "copyFrom", "(LTreeActs$Letters;)V"⟩
def RX2 : String := "TreeActs$Page"
def TX2 : u_T := fun k => match k with
  | 0 => ("TreeActs$Page", "codes", "[I", true)
  | _ => ("TreeActs$Page", "size", "I", false)
def tyX2 : Nat → FieldType := fun k => match k with
  | 0 => .array .int
  | _ => .int
theorem nmX2 : ∀ a, a < 2 → ∀ b, b < 2 → a ≠ b → (TX2 a).2.1 ≠ (TX2 b).2.1 := by decide +kernel
theorem tyX2_ok : ∀ k, k < 2 → parseFieldDescriptor (TX2 k).2.2.1 = some (tyX2 k) := by decide +kernel
abbrev cX2_init : ByteArray := prog_4_method_1_code
def yX2_init : MethodName := ⟨RX2, "<init>", "()V"⟩
abbrev cX2_size : ByteArray := prog_4_method_2_code
def yX2_size : MethodName := ⟨RX2, "size", "()I"⟩
abbrev cX2_codeAt : ByteArray := prog_4_method_3_code
def yX2_codeAt : MethodName := ⟨RX2, "codeAt", "(I)I"⟩
abbrev cX2_put : ByteArray := prog_4_method_4_code
def yX2_put : MethodName := ⟨RX2, "put", "(I)Z"⟩
abbrev cX2_clear : ByteArray := prog_4_method_5_code
def yX2_clear : MethodName := ⟨RX2, "clear", "()V"⟩
abbrev cX2_firstFault : ByteArray := prog_4_method_6_code
def yX2_firstFault : MethodName := ⟨RX2, "firstFault", "()I"⟩
abbrev cX2_isMachine : ByteArray := prog_4_method_7_code
def yX2_isMachine : MethodName := ⟨RX2, "isMachine", "()Z"⟩
abbrev cX2_statesTold : ByteArray := prog_4_method_8_code
def yX2_statesTold : MethodName := ⟨RX2, "statesTold", "()I"⟩
abbrev cX2_kindTold : ByteArray := prog_4_method_9_code
def yX2_kindTold : MethodName := ⟨RX2, "kindTold", "(I)I"⟩
abbrev cX2_nextTold : ByteArray := prog_4_method_10_code
def yX2_nextTold : MethodName := ⟨RX2, "nextTold", "(II)I"⟩
abbrev cX2_fits : ByteArray := prog_4_method_11_code
def yX2_fits : MethodName := ⟨RX2, "fits", "(II)Z"⟩
abbrev cX2_isDigit : ByteArray := prog_4_method_12_code
def yX2_isDigit : MethodName := ⟨RX2, "isDigit", "(I)Z"⟩
abbrev cX2_kindOfCode : ByteArray := prog_4_method_13_code
def yX2_kindOfCode : MethodName := ⟨RX2, "kindOfCode", "(I)I"⟩
def RX3 : String := "TreeActs$Plan"
def TX3 : u_T := fun k => match k with
  | 0 => ("TreeActs$Plan", "kinds", "[I", true)
  | 1 => ("TreeActs$Plan", "nexts", "[I", true)
  | 2 => ("TreeActs$Plan", "least", "[I", true)
  | 3 => ("TreeActs$Plan", "finer", "[I", true)
  | _ => ("TreeActs$Plan", "size", "I", false)
def tyX3 : Nat → FieldType := fun k => match k with
  | 0 => .array .int
  | 1 => .array .int
  | 2 => .array .int
  | 3 => .array .int
  | _ => .int
theorem nmX3 : ∀ a, a < 5 → ∀ b, b < 5 → a ≠ b → (TX3 a).2.1 ≠ (TX3 b).2.1 := by decide +kernel
theorem tyX3_ok : ∀ k, k < 5 → parseFieldDescriptor (TX3 k).2.2.1 = some (tyX3 k) := by decide +kernel
abbrev cX3_init : ByteArray := prog_5_method_1_code
def yX3_init : MethodName := ⟨RX3, "<init>", "()V"⟩
abbrev cX3_size : ByteArray := prog_5_method_2_code
def yX3_size : MethodName := ⟨RX3, "size", "()I"⟩
abbrev cX3_has : ByteArray := prog_5_method_3_code
def yX3_has : MethodName := ⟨RX3, "has", "(I)Z"⟩
abbrev cX3_readFrom : ByteArray := prog_5_method_4_code
def yX3_readFrom : MethodName := ⟨RX3, "readFrom", "(LTreeActs$Page;)V"⟩
abbrev cX3_copyFrom : ByteArray := prog_5_method_5_code
def yX3_copyFrom : MethodName := ⟨RX3, "copyFrom", "(LTreeActs$Plan;)V"⟩
abbrev cX3_kindOf : ByteArray := prog_5_method_6_code
def yX3_kindOf : MethodName := ⟨RX3, "kindOf", "(I)I"⟩
abbrev cX3_setKind : ByteArray := prog_5_method_7_code
def yX3_setKind : MethodName := ⟨RX3, "setKind", "(II)V"⟩
abbrev cX3_toldNext : ByteArray := prog_5_method_8_code
def yX3_toldNext : MethodName := ⟨RX3, "toldNext", "(II)I"⟩
abbrev cX3_setNext : ByteArray := prog_5_method_9_code
def yX3_setNext : MethodName := ⟨RX3, "setNext", "(III)V"⟩
abbrev cX3_flipsFirst : ByteArray := prog_5_method_10_code
def yX3_flipsFirst : MethodName := ⟨RX3, "flipsFirst", "(I)Z"⟩
abbrev cX3_goesOn : ByteArray := prog_5_method_11_code
def yX3_goesOn : MethodName := ⟨RX3, "goesOn", "(II)I"⟩
abbrev cX3_reachOf : ByteArray := prog_5_method_12_code
def yX3_reachOf : MethodName := ⟨RX3, "reachOf", "(I)I"⟩
abbrev cX3_nextsOf : ByteArray := prog_5_method_13_code
def yX3_nextsOf : MethodName := ⟨RX3, "nextsOf", "(I)I"⟩
abbrev cX3_isInCore : ByteArray := prog_5_method_14_code
def yX3_isInCore : MethodName := ⟨RX3, "isInCore", "(I)Z"⟩
abbrev cX3_inCore : ByteArray := prog_5_method_15_code
def yX3_inCore : MethodName := ⟨RX3, "inCore", "()I"⟩
abbrev cX3_leastAlike : ByteArray := prog_5_method_16_code
def yX3_leastAlike : MethodName := ⟨RX3, "leastAlike", "(I)I"⟩
abbrev cX3_classes : ByteArray := prog_5_method_17_code
def yX3_classes : MethodName := ⟨RX3, "classes", "()I"⟩
abbrev cX3_findAlike : ByteArray := prog_5_method_18_code
def yX3_findAlike : MethodName := ⟨RX3, "findAlike", "()V"⟩
abbrev cX3_leastThatSeemsAlike : ByteArray := prog_5_method_19_code
def yX3_leastThatSeemsAlike : MethodName := ⟨RX3, "leastThatSeemsAlike", "(I)I"⟩
abbrev cX3_leastBehind : ByteArray := prog_5_method_20_code
def yX3_leastBehind : MethodName := ⟨RX3, "leastBehind", "(II)I"⟩
abbrev cX3_letterBehind : ByteArray := prog_5_method_21_code
def yX3_letterBehind : MethodName := ⟨RX3, "letterBehind", "(II)I"⟩
abbrev cX3_flipsFirstSign : ByteArray := prog_5_method_22_code
def yX3_flipsFirstSign : MethodName := ⟨RX3, "flipsFirstSign", "(LTreeActs$Letters;)Z"⟩
abbrev cX3_putSection : ByteArray := prog_5_method_23_code
def yX3_putSection : MethodName := ⟨RX3, "putSection", "(LTreeActs$Letters;ILTreeActs$Letters;)V"⟩
abbrev cX3_rowAfterWord : ByteArray := prog_5_method_24_code
def yX3_rowAfterWord : MethodName := ⟨RX3, "rowAfterWord", "(LTreeActs$Letters;II)I"⟩
abbrev cX3_rowAfterLetter : ByteArray := prog_5_method_25_code
def yX3_rowAfterLetter : MethodName := ⟨RX3, "rowAfterLetter", "(III)I"⟩
def RX4 : String := "TreeActs$Search"
def TX4 : u_T := fun k => match k with
  | 0 => ("TreeActs$Search", "found", "[J", true)
  | 1 => ("TreeActs$Search", "packed", "[J", true)
  | 2 => ("TreeActs$Search", "current", "LTreeActs$Letters;", true)
  | 3 => ("TreeActs$Search", "behind", "LTreeActs$Letters;", true)
  | _ => ("TreeActs$Search", "size", "I", false)
def tyX4 : Nat → FieldType := fun k => match k with
  | 0 => .array .long
  | 1 => .array .long
  | 2 => .object "TreeActs$Letters"
  | 3 => .object "TreeActs$Letters"
  | _ => .int
theorem nmX4 : ∀ a, a < 5 → ∀ b, b < 5 → a ≠ b → (TX4 a).2.1 ≠ (TX4 b).2.1 := by decide +kernel
theorem tyX4_ok : ∀ k, k < 5 → parseFieldDescriptor (TX4 k).2.2.1 = some (tyX4 k) := by decide +kernel
abbrev cX4_init : ByteArray := prog_6_method_1_code
def yX4_init : MethodName := ⟨RX4, "<init>", "()V"⟩
abbrev cX4_tellNothing : ByteArray := prog_6_method_2_code
def yX4_tellNothing : MethodName := ⟨RX4, "tellNothing", "(LTreeActs$Plan;LTreeActs$Letters;)I"⟩
abbrev cX4_find : ByteArray := prog_6_method_3_code
def yX4_find : MethodName := ⟨RX4, "find", "(LTreeActs$Letters;)V"⟩
abbrev cX4_isPackedAt : ByteArray := prog_6_method_4_code
def yX4_isPackedAt : MethodName := ⟨RX4, "isPackedAt", "(I)Z"⟩
abbrev cX4_pack : ByteArray := prog_6_method_5_code
def yX4_pack : MethodName := ⟨RX4, "pack", "(LTreeActs$Letters;)V"⟩
abbrev cX4_unpack : ByteArray := prog_6_method_6_code
def yX4_unpack : MethodName := ⟨RX4, "unpack", "(I)V"⟩
def RX5 : String := "TreeActs$Seen"
def TX5 : u_T := fun k => match k with
  | 0 => ("TreeActs$Seen", "sorts", "[I", true)
  | _ => ("TreeActs$Seen", "size", "I", false)
def tyX5 : Nat → FieldType := fun k => match k with
  | 0 => .array .int
  | _ => .int
theorem nmX5 : ∀ a, a < 2 → ∀ b, b < 2 → a ≠ b → (TX5 a).2.1 ≠ (TX5 b).2.1 := by decide +kernel
theorem tyX5_ok : ∀ k, k < 2 → parseFieldDescriptor (TX5 k).2.2.1 = some (tyX5 k) := by decide +kernel
abbrev cX5_init : ByteArray := prog_7_method_1_code
def yX5_init : MethodName := ⟨RX5, "<init>", "()V"⟩
abbrev cX5_size : ByteArray := prog_7_method_2_code
def yX5_size : MethodName := ⟨RX5, "size", "()I"⟩
abbrev cX5_sortsOf : ByteArray := prog_7_method_3_code
def yX5_sortsOf : MethodName := ⟨RX5, "sortsOf", "(I)I"⟩
abbrev cX5_add : ByteArray := prog_7_method_4_code
def yX5_add : MethodName := ⟨RX5, "add", "(II)V"⟩
abbrev cX5_clear : ByteArray := prog_7_method_5_code
def yX5_clear : MethodName := ⟨RX5, "clear", "()V"⟩
abbrev cX5_copyFrom : ByteArray := prog_7_method_6_code
def yX5_copyFrom : MethodName := ⟨RX5, "copyFrom", "(LTreeActs$Seen;)V"⟩
def RX6 : String := "TreeActs"
def TX6 : u_T := fun k => match k with
  | 0 => ("TreeActs", "page", "LTreeActs$Page;", true)
  | 1 => ("TreeActs", "plan", "LTreeActs$Plan;", true)
  | 2 => ("TreeActs", "keptPlan", "LTreeActs$Plan;", true)
  | 3 => ("TreeActs", "words", "[LTreeActs$Letters;", true)
  | 4 => ("TreeActs", "keptWords", "[LTreeActs$Letters;", true)
  | 5 => ("TreeActs", "seen", "LTreeActs$Seen;", true)
  | 6 => ("TreeActs", "keptSeen", "LTreeActs$Seen;", true)
  | 7 => ("TreeActs", "search", "LTreeActs$Search;", true)
  | 8 => ("TreeActs", "scratch", "LTreeActs$Letters;", true)
  | 9 => ("TreeActs", "draws", "LTreeActs$Draws;", true)
  | 10 => ("TreeActs", "kept", "Z", false)
  | _ => ("TreeActs", "machinesRead", "I", false)
def tyX6 : Nat → FieldType := fun k => match k with
  | 0 => .object "TreeActs$Page"
  | 1 => .object "TreeActs$Plan"
  | 2 => .object "TreeActs$Plan"
  | 3 => .array (.object "TreeActs$Letters")
  | 4 => .array (.object "TreeActs$Letters")
  | 5 => .object "TreeActs$Seen"
  | 6 => .object "TreeActs$Seen"
  | 7 => .object "TreeActs$Search"
  | 8 => .object "TreeActs$Letters"
  | 9 => .object "TreeActs$Draws"
  | 10 => .boolean
  | _ => .int
theorem nmX6 : ∀ a, a < 12 → ∀ b, b < 12 → a ≠ b → (TX6 a).2.1 ≠ (TX6 b).2.1 := by decide +kernel
theorem tyX6_ok : ∀ k, k < 12 → parseFieldDescriptor (TX6 k).2.2.1 = some (tyX6 k) := by decide +kernel
abbrev cX6_init : ByteArray := prog_1_method_1_code
def yX6_init : MethodName := ⟨RX6, "<init>", "()V"⟩
abbrev cX6_letter : ByteArray := prog_1_method_2_code
def yX6_letter : MethodName := ⟨RX6, "letter", "(I)I"⟩
abbrev cX6_blank : ByteArray := prog_1_method_3_code
def yX6_blank : MethodName := ⟨RX6, "blank", "()I"⟩
abbrev cX6_fault : ByteArray := prog_1_method_4_code
def yX6_fault : MethodName := ⟨RX6, "fault", "()I"⟩
abbrev cX6_machine : ByteArray := prog_1_method_5_code
def yX6_machine : MethodName := ⟨RX6, "machine", "()I"⟩
abbrev cX6_word : ByteArray := prog_1_method_6_code
def yX6_word : MethodName := ⟨RX6, "word", "(I)I"⟩
abbrev cX6_state : ByteArray := prog_1_method_7_code
def yX6_state : MethodName := ⟨RX6, "state", "(II)I"⟩
abbrev cX6_as : ByteArray := prog_1_method_8_code
def yX6_as : MethodName := ⟨RX6, "as", "(II)I"⟩
abbrev cX6_sign : ByteArray := prog_1_method_9_code
def yX6_sign : MethodName := ⟨RX6, "sign", "(II)I"⟩
abbrev cX6_act : ByteArray := prog_1_method_10_code
def yX6_act : MethodName := ⟨RX6, "act", "(III)I"⟩
abbrev cX6_flips : ByteArray := prog_1_method_11_code
def yX6_flips : MethodName := ⟨RX6, "flips", "(II)I"⟩
abbrev cX6_round : ByteArray := prog_1_method_12_code
def yX6_round : MethodName := ⟨RX6, "round", "(III)I"⟩
abbrev cX6_nothing : ByteArray := prog_1_method_13_code
def yX6_nothing : MethodName := ⟨RX6, "nothing", "(I)I"⟩
abbrev cX6_alike : ByteArray := prog_1_method_14_code
def yX6_alike : MethodName := ⟨RX6, "alike", "(II)I"⟩
abbrev cX6_order : ByteArray := prog_1_method_15_code
def yX6_order : MethodName := ⟨RX6, "order", "(I)I"⟩
abbrev cX6_times : ByteArray := prog_1_method_16_code
def yX6_times : MethodName := ⟨RX6, "times", "(III)I"⟩
abbrev cX6_undo : ByteArray := prog_1_method_17_code
def yX6_undo : MethodName := ⟨RX6, "undo", "(II)I"⟩
abbrev cX6_section : ByteArray := prog_1_method_18_code
def yX6_section : MethodName := ⟨RX6, "section", "(III)I"⟩
abbrev cX6_aim : ByteArray := prog_1_method_19_code
def yX6_aim : MethodName := ⟨RX6, "aim", "(III)I"⟩
abbrev cX6_change : ByteArray := prog_1_method_20_code
def yX6_change : MethodName := ⟨RX6, "change", "(II)I"⟩
abbrev cX6_see : ByteArray := prog_1_method_21_code
def yX6_see : MethodName := ⟨RX6, "see", "(IIZ)I"⟩
abbrev cX6_forget : ByteArray := prog_1_method_22_code
def yX6_forget : MethodName := ⟨RX6, "forget", "()I"⟩
abbrev cX6_drawn : ByteArray := prog_1_method_23_code
def yX6_drawn : MethodName := ⟨RX6, "drawn", "(III)I"⟩
abbrev cX6_image : ByteArray := prog_1_method_24_code
def yX6_image : MethodName := ⟨RX6, "image", "()I"⟩
abbrev cX6_restore : ByteArray := prog_1_method_25_code
def yX6_restore : MethodName := ⟨RX6, "restore", "()I"⟩
abbrev cX6_count : ByteArray := prog_1_method_26_code
def yX6_count : MethodName := ⟨RX6, "count", "(I)I"⟩
abbrev cX6_digest : ByteArray := prog_1_method_27_code
def yX6_digest : MethodName := ⟨RX6, "digest", "()J"⟩
abbrev cX6_digestOfWord : ByteArray := prog_1_method_28_code
def yX6_digestOfWord : MethodName := ⟨RX6, "digestOfWord", "(JI)J"⟩
abbrev cX6_lettersOfAllWords : ByteArray := prog_1_method_29_code
def yX6_lettersOfAllWords : MethodName := ⟨RX6, "lettersOfAllWords", "()I"⟩
abbrev cX6_isWordOnPage : ByteArray := prog_1_method_30_code
def yX6_isWordOnPage : MethodName := ⟨RX6, "isWordOnPage", "()Z"⟩
abbrev cX6_drawWordToScratch : ByteArray := prog_1_method_31_code
def yX6_drawWordToScratch : MethodName := ⟨RX6, "drawWordToScratch", "()V"⟩
abbrev cX6_isActing : ByteArray := prog_1_method_32_code
def yX6_isActing : MethodName := ⟨RX6, "isActing", "(I)Z"⟩
abbrev cX6_isWord : ByteArray := prog_1_method_33_code
def yX6_isWord : MethodName := ⟨RX6, "isWord", "(I)Z"⟩
abbrev cX6_isKind : ByteArray := prog_1_method_34_code
def yX6_isKind : MethodName := ⟨RX6, "isKind", "(I)Z"⟩
abbrev cX6_isSign : ByteArray := prog_1_method_35_code
def yX6_isSign : MethodName := ⟨RX6, "isSign", "(I)Z"⟩
abbrev cX6_isRow : ByteArray := prog_1_method_36_code
def yX6_isRow : MethodName := ⟨RX6, "isRow", "(III)Z"⟩
abbrev cX6_bestQuestion : ByteArray := prog_1_method_37_code
def yX6_bestQuestion : MethodName := ⟨RX6, "bestQuestion", "(I)I"⟩
abbrev cX6_letterOf : ByteArray := prog_1_method_38_code
def yX6_letterOf : MethodName := ⟨RX6, "letterOf", "(IZ)I"⟩
abbrev cX6_stateOf : ByteArray := prog_1_method_39_code
def yX6_stateOf : MethodName := ⟨RX6, "stateOf", "(I)I"⟩
abbrev cX6_isInverse : ByteArray := prog_1_method_40_code
def yX6_isInverse : MethodName := ⟨RX6, "isInverse", "(I)Z"⟩
abbrev cX6_inverseOf : ByteArray := prog_1_method_41_code
def yX6_inverseOf : MethodName := ⟨RX6, "inverseOf", "(I)I"⟩
abbrev cX6_codeOfLetter : ByteArray := prog_1_method_42_code
def yX6_codeOfLetter : MethodName := ⟨RX6, "codeOfLetter", "(I)I"⟩
abbrev cX6_letterOfCode : ByteArray := prog_1_method_43_code
def yX6_letterOfCode : MethodName := ⟨RX6, "letterOfCode", "(I)I"⟩
def RX7 : String := "TreeActsModel"
def TX7 : u_T := fun k => match k with
  | 0 => ("TreeActsModel", "states", "I", false)
  | 1 => ("TreeActsModel", "kind", "[I", true)
  | 2 => ("TreeActsModel", "next", "[I", true)
  | 3 => ("TreeActsModel", "machines", "I", false)
  | 4 => ("TreeActsModel", "length", "[I", true)
  | 5 => ("TreeActsModel", "letters", "[I", true)
  | 6 => ("TreeActsModel", "seen", "I", false)
  | 7 => ("TreeActsModel", "seenOf", "[I", true)
  | 8 => ("TreeActsModel", "seenWhat", "[I", true)
  | 9 => ("TreeActsModel", "seenCould", "[Z", true)
  | 10 => ("TreeActsModel", "pageLength", "I", false)
  | 11 => ("TreeActsModel", "page", "[I", true)
  | 12 => ("TreeActsModel", "madeLength", "I", false)
  | 13 => ("TreeActsModel", "made", "[I", true)
  | 14 => ("TreeActsModel", "listed", "I", false)
  | 15 => ("TreeActsModel", "listLength", "[I", true)
  | 16 => ("TreeActsModel", "list", "[B", true)
  | 17 => ("TreeActsModel", "seedNow", "J", false)
  | 18 => ("TreeActsModel", "drawnLetters", "[I", true)
  | 19 => ("TreeActsModel", "keptMachine", "I", false)
  | 20 => ("TreeActsModel", "keptStates", "I", false)
  | 21 => ("TreeActsModel", "keptSeen", "I", false)
  | 22 => ("TreeActsModel", "keptKind", "[I", true)
  | 23 => ("TreeActsModel", "keptNext", "[I", true)
  | 24 => ("TreeActsModel", "keptLength", "[I", true)
  | 25 => ("TreeActsModel", "keptLetters", "[I", true)
  | 26 => ("TreeActsModel", "keptOf", "[I", true)
  | 27 => ("TreeActsModel", "keptWhat", "[I", true)
  | 28 => ("TreeActsModel", "keptCould", "[Z", true)
  | _ => ("TreeActsModel", "h", "J", false)
def tyX7 : Nat → FieldType := fun k => match k with
  | 0 => .int
  | 1 => .array .int
  | 2 => .array .int
  | 3 => .int
  | 4 => .array .int
  | 5 => .array .int
  | 6 => .int
  | 7 => .array .int
  | 8 => .array .int
  | 9 => .array .boolean
  | 10 => .int
  | 11 => .array .int
  | 12 => .int
  | 13 => .array .int
  | 14 => .int
  | 15 => .array .int
  | 16 => .array .byte
  | 17 => .long
  | 18 => .array .int
  | 19 => .int
  | 20 => .int
  | 21 => .int
  | 22 => .array .int
  | 23 => .array .int
  | 24 => .array .int
  | 25 => .array .int
  | 26 => .array .int
  | 27 => .array .int
  | 28 => .array .boolean
  | _ => .long
theorem nmX7 : ∀ a, a < 30 → ∀ b, b < 30 → a ≠ b → (TX7 a).2.1 ≠ (TX7 b).2.1 := by decide +kernel
theorem tyX7_ok : ∀ k, k < 30 → parseFieldDescriptor (TX7 k).2.2.1 = some (tyX7 k) := by decide +kernel
abbrev cX7_init : ByteArray := prog_9_method_1_code
def yX7_init : MethodName := ⟨RX7, "<init>", "()V"⟩
abbrev cX7_within : ByteArray := prog_9_method_3_code
def yX7_within : MethodName := ⟨RX7, "within", "(III)Z"⟩
abbrev cX7_isBit : ByteArray := prog_9_method_4_code
def yX7_isBit : MethodName := ⟨RX7, "isBit", "(II)Z"⟩
abbrev cX7_size : ByteArray := prog_9_method_5_code
def yX7_size : MethodName := ⟨RX7, "size", "(I)I"⟩
abbrev cX7_letter : ByteArray := prog_9_method_6_code
def yX7_letter : MethodName := ⟨RX7, "letter", "(I)I"⟩
abbrev cX7_blank : ByteArray := prog_9_method_7_code
def yX7_blank : MethodName := ⟨RX7, "blank", "()I"⟩
abbrev cX7_kindBy : ByteArray := prog_9_method_8_code
def yX7_kindBy : MethodName := ⟨RX7, "kindBy", "(I)I"⟩
abbrev cX7_fitsAt : ByteArray := prog_9_method_9_code
def yX7_fitsAt : MethodName := ⟨RX7, "fitsAt", "(II)Z"⟩
abbrev cX7_fault : ByteArray := prog_9_method_10_code
def yX7_fault : MethodName := ⟨RX7, "fault", "()I"⟩
abbrev cX7_aimOf : ByteArray := prog_9_method_11_code
def yX7_aimOf : MethodName := ⟨RX7, "aimOf", "(I)I"⟩
abbrev cX7_isAimed : ByteArray := prog_9_method_12_code
def yX7_isAimed : MethodName := ⟨RX7, "isAimed", "(I)Z"⟩
abbrev cX7_machine : ByteArray := prog_9_method_13_code
def yX7_machine : MethodName := ⟨RX7, "machine", "()I"⟩
abbrev cX7_isWord : ByteArray := prog_9_method_14_code
def yX7_isWord : MethodName := ⟨RX7, "isWord", "(I)Z"⟩
abbrev cX7_letterOf : ByteArray := prog_9_method_15_code
def yX7_letterOf : MethodName := ⟨RX7, "letterOf", "(I)I"⟩
abbrev cX7_begin : ByteArray := prog_9_method_16_code
def yX7_begin : MethodName := ⟨RX7, "begin", "()V"⟩
abbrev cX7_comes : ByteArray := prog_9_method_17_code
def yX7_comes : MethodName := ⟨RX7, "comes", "(I)V"⟩
abbrev cX7_comesWord : ByteArray := prog_9_method_18_code
def yX7_comesWord : MethodName := ⟨RX7, "comesWord", "(I)V"⟩
abbrev cX7_comesInverse : ByteArray := prog_9_method_19_code
def yX7_comesInverse : MethodName := ⟨RX7, "comesInverse", "(I)V"⟩
abbrev cX7_keepMade : ByteArray := prog_9_method_20_code
def yX7_keepMade : MethodName := ⟨RX7, "keepMade", "(I)I"⟩
abbrev cX7_word : ByteArray := prog_9_method_21_code
def yX7_word : MethodName := ⟨RX7, "word", "(I)I"⟩
abbrev cX7_flipOf : ByteArray := prog_9_method_22_code
def yX7_flipOf : MethodName := ⟨RX7, "flipOf", "(I)I"⟩
abbrev cX7_goesOn : ByteArray := prog_9_method_23_code
def yX7_goesOn : MethodName := ⟨RX7, "goesOn", "(II)I"⟩
abbrev cX7_letterOn : ByteArray := prog_9_method_24_code
def yX7_letterOn : MethodName := ⟨RX7, "letterOn", "(II)I"⟩
abbrev cX7_actLetter : ByteArray := prog_9_method_25_code
def yX7_actLetter : MethodName := ⟨RX7, "actLetter", "(III)I"⟩
abbrev cX7_actWord : ByteArray := prog_9_method_26_code
def yX7_actWord : MethodName := ⟨RX7, "actWord", "(III)I"⟩
abbrev cX7_isAlike : ByteArray := prog_9_method_27_code
def yX7_isAlike : MethodName := ⟨RX7, "isAlike", "(II)Z"⟩
abbrev cX7_leastAlike : ByteArray := prog_9_method_28_code
def yX7_leastAlike : MethodName := ⟨RX7, "leastAlike", "(I)I"⟩
abbrev cX7_nextOf : ByteArray := prog_9_method_29_code
def yX7_nextOf : MethodName := ⟨RX7, "nextOf", "(I)I"⟩
abbrev cX7_reach : ByteArray := prog_9_method_30_code
def yX7_reach : MethodName := ⟨RX7, "reach", "(I)I"⟩
abbrev cX7_could : ByteArray := prog_9_method_31_code
def yX7_could : MethodName := ⟨RX7, "could", "(II)Z"⟩
abbrev cX7_sorts : ByteArray := prog_9_method_32_code
def yX7_sorts : MethodName := ⟨RX7, "sorts", "(I)I"⟩
abbrev cX7_withIt : ByteArray := prog_9_method_33_code
def yX7_withIt : MethodName := ⟨RX7, "withIt", "(II)I"⟩
abbrev cX7_ask : ByteArray := prog_9_method_34_code
def yX7_ask : MethodName := ⟨RX7, "ask", "(I)I"⟩
abbrev cX7_isState : ByteArray := prog_9_method_35_code
def yX7_isState : MethodName := ⟨RX7, "isState", "(I)Z"⟩
abbrev cX7_stateNow : ByteArray := prog_9_method_36_code
def yX7_stateNow : MethodName := ⟨RX7, "stateNow", "(II)I"⟩
abbrev cX7_state : ByteArray := prog_9_method_37_code
def yX7_state : MethodName := ⟨RX7, "state", "(II)I"⟩
abbrev cX7_isSuch : ByteArray := prog_9_method_38_code
def yX7_isSuch : MethodName := ⟨RX7, "isSuch", "(II)Z"⟩
abbrev cX7_as : ByteArray := prog_9_method_39_code
def yX7_as : MethodName := ⟨RX7, "as", "(II)I"⟩
abbrev cX7_sign : ByteArray := prog_9_method_40_code
def yX7_sign : MethodName := ⟨RX7, "sign", "(II)I"⟩
abbrev cX7_codeOf : ByteArray := prog_9_method_41_code
def yX7_codeOf : MethodName := ⟨RX7, "codeOf", "(I)I"⟩
abbrev cX7_isRow : ByteArray := prog_9_method_42_code
def yX7_isRow : MethodName := ⟨RX7, "isRow", "(III)Z"⟩
abbrev cX7_act : ByteArray := prog_9_method_43_code
def yX7_act : MethodName := ⟨RX7, "act", "(III)I"⟩
abbrev cX7_flipsOf : ByteArray := prog_9_method_44_code
def yX7_flipsOf : MethodName := ⟨RX7, "flipsOf", "(II)I"⟩
abbrev cX7_flips : ByteArray := prog_9_method_45_code
def yX7_flips : MethodName := ⟨RX7, "flips", "(II)I"⟩
abbrev cX7_roundOf : ByteArray := prog_9_method_46_code
def yX7_roundOf : MethodName := ⟨RX7, "roundOf", "(III)I"⟩
abbrev cX7_round : ByteArray := prog_9_method_47_code
def yX7_round : MethodName := ⟨RX7, "round", "(III)I"⟩
abbrev cX7_isListed : ByteArray := prog_9_method_48_code
def yX7_isListed : MethodName := ⟨RX7, "isListed", "(I)Z"⟩
abbrev cX7_enlist : ByteArray := prog_9_method_49_code
def yX7_enlist : MethodName := ⟨RX7, "enlist", "()V"⟩
abbrev cX7_isFlipping : ByteArray := prog_9_method_50_code
def yX7_isFlipping : MethodName := ⟨RX7, "isFlipping", "(I)Z"⟩
abbrev cX7_makeSection : ByteArray := prog_9_method_51_code
def yX7_makeSection : MethodName := ⟨RX7, "makeSection", "(II)V"⟩
abbrev cX7_isNothing : ByteArray := prog_9_method_52_code
def yX7_isNothing : MethodName := ⟨RX7, "isNothing", "()I"⟩
abbrev cX7_nothingOf : ByteArray := prog_9_method_53_code
def yX7_nothingOf : MethodName := ⟨RX7, "nothingOf", "(I)I"⟩
abbrev cX7_nothing : ByteArray := prog_9_method_54_code
def yX7_nothing : MethodName := ⟨RX7, "nothing", "(I)I"⟩
abbrev cX7_alike : ByteArray := prog_9_method_55_code
def yX7_alike : MethodName := ⟨RX7, "alike", "(II)I"⟩
abbrev cX7_orderOf : ByteArray := prog_9_method_56_code
def yX7_orderOf : MethodName := ⟨RX7, "orderOf", "(I)I"⟩
abbrev cX7_order : ByteArray := prog_9_method_57_code
def yX7_order : MethodName := ⟨RX7, "order", "(I)I"⟩
abbrev cX7_times : ByteArray := prog_9_method_58_code
def yX7_times : MethodName := ⟨RX7, "times", "(III)I"⟩
abbrev cX7_undo : ByteArray := prog_9_method_59_code
def yX7_undo : MethodName := ⟨RX7, "undo", "(II)I"⟩
abbrev cX7_section : ByteArray := prog_9_method_60_code
def yX7_section : MethodName := ⟨RX7, "section", "(III)I"⟩
abbrev cX7_aim : ByteArray := prog_9_method_61_code
def yX7_aim : MethodName := ⟨RX7, "aim", "(III)I"⟩
abbrev cX7_change : ByteArray := prog_9_method_62_code
def yX7_change : MethodName := ⟨RX7, "change", "(II)I"⟩
abbrev cX7_see : ByteArray := prog_9_method_63_code
def yX7_see : MethodName := ⟨RX7, "see", "(IIZ)I"⟩
abbrev cX7_forget : ByteArray := prog_9_method_64_code
def yX7_forget : MethodName := ⟨RX7, "forget", "()I"⟩
abbrev cX7_drawOf : ByteArray := prog_9_method_65_code
def yX7_drawOf : MethodName := ⟨RX7, "drawOf", "(I)I"⟩
abbrev cX7_drawnNow : ByteArray := prog_9_method_66_code
def yX7_drawnNow : MethodName := ⟨RX7, "drawnNow", "(III)I"⟩
abbrev cX7_drawn : ByteArray := prog_9_method_67_code
def yX7_drawn : MethodName := ⟨RX7, "drawn", "(III)I"⟩
abbrev cX7_copy : ByteArray := prog_9_method_68_code
def yX7_copy : MethodName := ⟨RX7, "copy", "([I[II)V"⟩
abbrev cX7_image : ByteArray := prog_9_method_69_code
def yX7_image : MethodName := ⟨RX7, "image", "()I"⟩
abbrev cX7_restore : ByteArray := prog_9_method_70_code
def yX7_restore : MethodName := ⟨RX7, "restore", "()I"⟩
abbrev cX7_classes : ByteArray := prog_9_method_71_code
def yX7_classes : MethodName := ⟨RX7, "classes", "()I"⟩
abbrev cX7_core : ByteArray := prog_9_method_72_code
def yX7_core : MethodName := ⟨RX7, "core", "()I"⟩
abbrev cX7_howMany : ByteArray := prog_9_method_73_code
def yX7_howMany : MethodName := ⟨RX7, "howMany", "(I)I"⟩
abbrev cX7_count : ByteArray := prog_9_method_74_code
def yX7_count : MethodName := ⟨RX7, "count", "(I)I"⟩
abbrev cX7_mix : ByteArray := prog_9_method_75_code
def yX7_mix : MethodName := ⟨RX7, "mix", "(J)V"⟩
abbrev cX7_mixWord : ByteArray := prog_9_method_76_code
def yX7_mixWord : MethodName := ⟨RX7, "mixWord", "(I)V"⟩
abbrev cX7_digest : ByteArray := prog_9_method_77_code
def yX7_digest : MethodName := ⟨RX7, "digest", "()J"⟩
def RJ6 : String := "java/lang/Integer"
def TJ6 : u_T := fun k => match k with
  | _ => ("", "", "", false)
def tyJ6 : Nat → FieldType := fun k => match k with
  | _ => .int
theorem nmJ6 : ∀ a, a < 0 → ∀ b, b < 0 → a ≠ b → (TJ6 a).2.1 ≠ (TJ6 b).2.1 := by decide +kernel
theorem tyJ6_ok : ∀ k, k < 0 → parseFieldDescriptor (TJ6 k).2.2.1 = some (tyJ6 k) := by decide +kernel
abbrev cJ6_bitCount_0f7a4 : ByteArray := prog_10_method_49_code
def yJ6_bitCount_0f7a4 : MethodName := ⟨RJ6, "bitCount", "(I)I"⟩
def RJ9 : String := "java/lang/Math"
def TJ9 : u_T := fun k => match k with
  | _ => ("", "", "", false)
def tyJ9 : Nat → FieldType := fun k => match k with
  | _ => .int
theorem nmJ9 : ∀ a, a < 0 → ∀ b, b < 0 → a ≠ b → (TJ9 a).2.1 ≠ (TJ9 b).2.1 := by decide +kernel
theorem tyJ9_ok : ∀ k, k < 0 → parseFieldDescriptor (TJ9 k).2.2.1 = some (tyJ9 k) := by decide +kernel
abbrev cJ9_max_7cf53 : ByteArray := prog_11_method_65_code
def yJ9_max_7cf53 : MethodName := ⟨RJ9, "max", "(II)I"⟩
abbrev cJ9_min_7cf53 : ByteArray := prog_11_method_69_code
def yJ9_min_7cf53 : MethodName := ⟨RJ9, "min", "(II)I"⟩
def RJ0 : String := "java/lang/String"
def TJ0 : u_T := fun k => match k with
  | _ => ("", "", "", false)
def tyJ0 : Nat → FieldType := fun k => match k with
  | _ => .int
theorem nmJ0 : ∀ a, a < 0 → ∀ b, b < 0 → a ≠ b → (TJ0 a).2.1 ≠ (TJ0 b).2.1 := by decide +kernel
theorem tyJ0_ok : ∀ k, k < 0 → parseFieldDescriptor (TJ0 k).2.2.1 = some (tyJ0 k) := by decide +kernel
abbrev cJ0_length_8abf5 : ByteArray := prog_12_method_54_code
def yJ0_length_8abf5 : MethodName := ⟨RJ0, "length", "()I"⟩
abbrev cJ0_charAt_5068e : ByteArray := prog_12_method_56_code
def yJ0_charAt_5068e : MethodName := ⟨RJ0, "charAt", "(I)C"⟩
abbrev cJ0_coder_7d493 : ByteArray := prog_12_method_152_code
def yJ0_coder_7d493 : MethodName := ⟨RJ0, "coder", "()B"⟩
abbrev cJ0_isLatin1_aae02 : ByteArray := prog_12_method_154_code
def yJ0_isLatin1_aae02 : MethodName := ⟨RJ0, "isLatin1", "()Z"⟩
abbrev cJ0_checkIndex_df160 : ByteArray := prog_12_method_155_code
def yJ0_checkIndex_df160 : MethodName := ⟨RJ0, "checkIndex", "(II)V"⟩
def RJ1 : String := "java/lang/StringLatin1"
def TJ1 : u_T := fun k => match k with
  | _ => ("", "", "", false)
def tyJ1 : Nat → FieldType := fun k => match k with
  | _ => .int
theorem nmJ1 : ∀ a, a < 0 → ∀ b, b < 0 → a ≠ b → (TJ1 a).2.1 ≠ (TJ1 b).2.1 := by decide +kernel
theorem tyJ1_ok : ∀ k, k < 0 → parseFieldDescriptor (TJ1 k).2.2.1 = some (tyJ1 k) := by decide +kernel
abbrev cJ1_charAt_3b067 : ByteArray := prog_13_method_2_code
def yJ1_charAt_3b067 : MethodName := ⟨RJ1, "charAt", "([BI)C"⟩
def RJ2 : String := "java/lang/StringUTF16"
def TJ2 : u_T := fun k => match k with
  | _ => ("", "", "", false)
def tyJ2 : Nat → FieldType := fun k => match k with
  | _ => .int
theorem nmJ2 : ∀ a, a < 0 → ∀ b, b < 0 → a ≠ b → (TJ2 a).2.1 ≠ (TJ2 b).2.1 := by decide +kernel
theorem tyJ2_ok : ∀ k, k < 0 → parseFieldDescriptor (TJ2 k).2.2.1 = some (tyJ2 k) := by decide +kernel
abbrev cJ2_getChar_3b067 : ByteArray := prog_14_method_5_code
def yJ2_getChar_3b067 : MethodName := ⟨RJ2, "getChar", "([BI)C"⟩
abbrev cJ2_length_9d52b : ByteArray := prog_14_method_6_code
def yJ2_length_9d52b : MethodName := ⟨RJ2, "length", "([B)I"⟩
abbrev cJ2_charAt_3b067 : ByteArray := prog_14_method_83_code
def yJ2_charAt_3b067 : MethodName := ⟨RJ2, "charAt", "([BI)C"⟩
abbrev cJ2_checkIndex_2214a : ByteArray := prog_14_method_91_code
def yJ2_checkIndex_2214a : MethodName := ⟨RJ2, "checkIndex", "(I[B)V"⟩
def RJ10 : String := "java/lang/System"
def TJ10 : u_T := fun k => match k with
  | _ => ("", "", "", false)
def tyJ10 : Nat → FieldType := fun k => match k with
  | _ => .int
theorem nmJ10 : ∀ a, a < 0 → ∀ b, b < 0 → a ≠ b → (TJ10 a).2.1 ≠ (TJ10 b).2.1 := by decide +kernel
theorem tyJ10_ok : ∀ k, k < 0 → parseFieldDescriptor (TJ10 k).2.2.1 = some (tyJ10 k) := by decide +kernel
def RJ3 : String := "jdk/internal/util/Preconditions"
def TJ3 : u_T := fun k => match k with
  | _ => ("", "", "", false)
def tyJ3 : Nat → FieldType := fun k => match k with
  | _ => .int
theorem nmJ3 : ∀ a, a < 0 → ∀ b, b < 0 → a ≠ b → (TJ3 a).2.1 ≠ (TJ3 b).2.1 := by decide +kernel
theorem tyJ3_ok : ∀ k, k < 0 → parseFieldDescriptor (TJ3 k).2.2.1 = some (tyJ3 k) := by decide +kernel
abbrev cJ3_checkIndex_8e157 : ByteArray := prog_16_method_11_code
def yJ3_checkIndex_8e157 : MethodName := ⟨RJ3, "checkIndex", "(IILjava/util/function/BiFunction;)I"⟩
def RL : String := "TreeActsLaw"
abbrev cL_law : ByteArray := code
def yL_law : MethodName := ⟨RL, "law", "([I)Z"⟩
abbrev vwCl : List vw_C := [(RX0, TX0, 1), (RX1, TX1, 2), (RX2, TX2, 2), (RX3, TX3, 5), (RX4, TX4, 5), (RX5, TX5, 2), (RX6, TX6, 12), (RX7, TX7, 30)]
end
section
theorem dX0_init_0 : decode cX0_init 0 = .ok (.aload_n 0, 1) := by decide +kernel
theorem dX0_init_1 : decode cX0_init 1 = .ok (.invokespecial 1, 3) := by decide +kernel
theorem dX0_init_4 : decode cX0_init 4 = .ok (.aload_n 0, 1) := by decide +kernel
theorem dX0_init_5 : decode cX0_init 5 = .ok (.lconst 0, 1) := by decide +kernel
theorem dX0_init_6 : decode cX0_init 6 = .ok (.putfield 7, 3) := by decide +kernel
theorem dX0_init_9 : decode cX0_init 9 = .ok (.return_, 1) := by decide +kernel
theorem dX0_startAt_0 : decode cX0_startAt 0 = .ok (.aload_n 0, 1) := by decide +kernel
theorem dX0_startAt_1 : decode cX0_startAt 1 = .ok (.iload_n 1, 1) := by decide +kernel
theorem dX0_startAt_2 : decode cX0_startAt 2 = .ok (.i2l, 1) := by decide +kernel
theorem dX0_startAt_3 : decode cX0_startAt 3 = .ok (.putfield 7, 3) := by decide +kernel
theorem dX0_startAt_6 : decode cX0_startAt 6 = .ok (.return_, 1) := by decide +kernel
theorem dX0_seedNow_0 : decode cX0_seedNow 0 = .ok (.aload_n 0, 1) := by decide +kernel
theorem dX0_seedNow_1 : decode cX0_seedNow 1 = .ok (.getfield 7, 3) := by decide +kernel
theorem dX0_seedNow_4 : decode cX0_seedNow 4 = .ok (.l2i, 1) := by decide +kernel
theorem dX0_seedNow_5 : decode cX0_seedNow 5 = .ok (.ireturn, 1) := by decide +kernel
theorem dX0_below_0 : decode cX0_below 0 = .ok (.aload_n 0, 1) := by decide +kernel
theorem dX0_below_1 : decode cX0_below 1 = .ok (.ldc2_w 13, 3) := by decide +kernel
theorem dX0_below_4 : decode cX0_below 4 = .ok (.aload_n 0, 1) := by decide +kernel
theorem dX0_below_5 : decode cX0_below 5 = .ok (.getfield 7, 3) := by decide +kernel
theorem dX0_below_8 : decode cX0_below 8 = .ok (.lmul, 1) := by decide +kernel
theorem dX0_below_9 : decode cX0_below 9 = .ok (.ldc2_w 15, 3) := by decide +kernel
theorem dX0_below_12 : decode cX0_below 12 = .ok (.ladd, 1) := by decide +kernel
theorem dX0_below_13 : decode cX0_below 13 = .ok (.ldc2_w 17, 3) := by decide +kernel
theorem dX0_below_16 : decode cX0_below 16 = .ok (.land, 1) := by decide +kernel
theorem dX0_below_17 : decode cX0_below 17 = .ok (.putfield 7, 3) := by decide +kernel
theorem dX0_below_20 : decode cX0_below 20 = .ok (.iload_n 1, 1) := by decide +kernel
theorem dX0_below_21 : decode cX0_below 21 = .ok (.ifCond .le 18, 3) := by decide +kernel
theorem dX0_below_24 : decode cX0_below 24 = .ok (.aload_n 0, 1) := by decide +kernel
theorem dX0_below_25 : decode cX0_below 25 = .ok (.getfield 7, 3) := by decide +kernel
theorem dX0_below_28 : decode cX0_below 28 = .ok (.ldc2_w 19, 3) := by decide +kernel
theorem dX0_below_31 : decode cX0_below 31 = .ok (.ldiv, 1) := by decide +kernel
theorem dX0_below_32 : decode cX0_below 32 = .ok (.iload_n 1, 1) := by decide +kernel
theorem dX0_below_33 : decode cX0_below 33 = .ok (.i2l, 1) := by decide +kernel
theorem dX0_below_34 : decode cX0_below 34 = .ok (.lrem, 1) := by decide +kernel
theorem dX0_below_35 : decode cX0_below 35 = .ok (.l2i, 1) := by decide +kernel
theorem dX0_below_36 : decode cX0_below 36 = .ok (.goto 4, 3) := by decide +kernel
theorem dX0_below_39 : decode cX0_below 39 = .ok (.iconst 0, 1) := by decide +kernel
theorem dX0_below_40 : decode cX0_below 40 = .ok (.ireturn, 1) := by decide +kernel
theorem dX1_init_0 : decode cX1_init 0 = .ok (.aload_n 0, 1) := by decide +kernel
theorem dX1_init_1 : decode cX1_init 1 = .ok (.invokespecial 3, 3) := by decide +kernel
theorem dX1_init_4 : decode cX1_init 4 = .ok (.aload_n 0, 1) := by decide +kernel
theorem dX1_init_5 : decode cX1_init 5 = .ok (.iload_n 1, 1) := by decide +kernel
theorem dX1_init_6 : decode cX1_init 6 = .ok (.iconst 0, 1) := by decide +kernel
theorem dX1_init_7 : decode cX1_init 7 = .ok (.invokestatic 9, 3) := by decide +kernel
theorem dX1_init_10 : decode cX1_init 10 = .ok (.newarray .int, 2) := by decide +kernel
theorem dX1_init_12 : decode cX1_init 12 = .ok (.putfield 15, 3) := by decide +kernel
theorem dX1_init_15 : decode cX1_init 15 = .ok (.aload_n 0, 1) := by decide +kernel
theorem dX1_init_16 : decode cX1_init 16 = .ok (.iconst 0, 1) := by decide +kernel
theorem dX1_init_17 : decode cX1_init 17 = .ok (.putfield 21, 3) := by decide +kernel
theorem dX1_init_20 : decode cX1_init 20 = .ok (.return_, 1) := by decide +kernel
theorem dX1_size_0 : decode cX1_size 0 = .ok (.aload_n 0, 1) := by decide +kernel
theorem dX1_size_1 : decode cX1_size 1 = .ok (.getfield 21, 3) := by decide +kernel
theorem dX1_size_4 : decode cX1_size 4 = .ok (.ireturn, 1) := by decide +kernel
theorem dX1_at_0 : decode cX1_at 0 = .ok (.iload_n 1, 1) := by decide +kernel
theorem dX1_at_1 : decode cX1_at 1 = .ok (.ifCond .lt 29, 3) := by decide +kernel
theorem dX1_at_4 : decode cX1_at 4 = .ok (.iload_n 1, 1) := by decide +kernel
theorem dX1_at_5 : decode cX1_at 5 = .ok (.aload_n 0, 1) := by decide +kernel
theorem dX1_at_6 : decode cX1_at 6 = .ok (.getfield 21, 3) := by decide +kernel
theorem dX1_at_9 : decode cX1_at 9 = .ok (.if_icmp .ge 21, 3) := by decide +kernel
theorem dX1_at_12 : decode cX1_at 12 = .ok (.iload_n 1, 1) := by decide +kernel
theorem dX1_at_13 : decode cX1_at 13 = .ok (.aload_n 0, 1) := by decide +kernel
theorem dX1_at_14 : decode cX1_at 14 = .ok (.getfield 15, 3) := by decide +kernel
theorem dX1_at_17 : decode cX1_at 17 = .ok (.arraylength, 1) := by decide +kernel
theorem dX1_at_18 : decode cX1_at 18 = .ok (.if_icmp .ge 12, 3) := by decide +kernel
theorem dX1_at_21 : decode cX1_at 21 = .ok (.aload_n 0, 1) := by decide +kernel
theorem dX1_at_22 : decode cX1_at 22 = .ok (.getfield 15, 3) := by decide +kernel
theorem dX1_at_25 : decode cX1_at 25 = .ok (.iload_n 1, 1) := by decide +kernel
theorem dX1_at_26 : decode cX1_at 26 = .ok (.iaload, 1) := by decide +kernel
theorem dX1_at_27 : decode cX1_at 27 = .ok (.goto 4, 3) := by decide +kernel
theorem dX1_at_30 : decode cX1_at 30 = .ok (.iconst (-1), 1) := by decide +kernel
theorem dX1_at_31 : decode cX1_at 31 = .ok (.ireturn, 1) := by decide +kernel
theorem dX1_clear_0 : decode cX1_clear 0 = .ok (.aload_n 0, 1) := by decide +kernel
theorem dX1_clear_1 : decode cX1_clear 1 = .ok (.iconst 0, 1) := by decide +kernel
theorem dX1_clear_2 : decode cX1_clear 2 = .ok (.putfield 21, 3) := by decide +kernel
theorem dX1_clear_5 : decode cX1_clear 5 = .ok (.return_, 1) := by decide +kernel
theorem dX1_addAsIs_0 : decode cX1_addAsIs 0 = .ok (.aload_n 0, 1) := by decide +kernel
theorem dX1_addAsIs_1 : decode cX1_addAsIs 1 = .ok (.getfield 21, 3) := by decide +kernel
theorem dX1_addAsIs_4 : decode cX1_addAsIs 4 = .ok (.ifCond .lt 35, 3) := by decide +kernel
theorem dX1_addAsIs_7 : decode cX1_addAsIs 7 = .ok (.aload_n 0, 1) := by decide +kernel
theorem dX1_addAsIs_8 : decode cX1_addAsIs 8 = .ok (.getfield 21, 3) := by decide +kernel
theorem dX1_addAsIs_11 : decode cX1_addAsIs 11 = .ok (.aload_n 0, 1) := by decide +kernel
theorem dX1_addAsIs_12 : decode cX1_addAsIs 12 = .ok (.getfield 15, 3) := by decide +kernel
theorem dX1_addAsIs_15 : decode cX1_addAsIs 15 = .ok (.arraylength, 1) := by decide +kernel
theorem dX1_addAsIs_16 : decode cX1_addAsIs 16 = .ok (.if_icmp .ge 23, 3) := by decide +kernel
theorem dX1_addAsIs_19 : decode cX1_addAsIs 19 = .ok (.aload_n 0, 1) := by decide +kernel
theorem dX1_addAsIs_20 : decode cX1_addAsIs 20 = .ok (.getfield 15, 3) := by decide +kernel
theorem dX1_addAsIs_23 : decode cX1_addAsIs 23 = .ok (.aload_n 0, 1) := by decide +kernel
theorem dX1_addAsIs_24 : decode cX1_addAsIs 24 = .ok (.getfield 21, 3) := by decide +kernel
theorem dX1_addAsIs_27 : decode cX1_addAsIs 27 = .ok (.iload_n 1, 1) := by decide +kernel
theorem dX1_addAsIs_28 : decode cX1_addAsIs 28 = .ok (.iastore, 1) := by decide +kernel
theorem dX1_addAsIs_29 : decode cX1_addAsIs 29 = .ok (.aload_n 0, 1) := by decide +kernel
theorem dX1_addAsIs_30 : decode cX1_addAsIs 30 = .ok (.dup, 1) := by decide +kernel
theorem dX1_addAsIs_31 : decode cX1_addAsIs 31 = .ok (.getfield 21, 3) := by decide +kernel
theorem dX1_addAsIs_34 : decode cX1_addAsIs 34 = .ok (.iconst 1, 1) := by decide +kernel
theorem dX1_addAsIs_35 : decode cX1_addAsIs 35 = .ok (.iadd, 1) := by decide +kernel
theorem dX1_addAsIs_36 : decode cX1_addAsIs 36 = .ok (.putfield 21, 3) := by decide +kernel
theorem dX1_addAsIs_39 : decode cX1_addAsIs 39 = .ok (.return_, 1) := by decide +kernel
theorem dX1_addReduced_0 : decode cX1_addReduced 0 = .ok (.aload_n 0, 1) := by decide +kernel
theorem dX1_addReduced_1 : decode cX1_addReduced 1 = .ok (.getfield 21, 3) := by decide +kernel
theorem dX1_addReduced_4 : decode cX1_addReduced 4 = .ok (.ifCond .le 33, 3) := by decide +kernel
theorem dX1_addReduced_7 : decode cX1_addReduced 7 = .ok (.aload_n 0, 1) := by decide +kernel
theorem dX1_addReduced_8 : decode cX1_addReduced 8 = .ok (.aload_n 0, 1) := by decide +kernel
theorem dX1_addReduced_9 : decode cX1_addReduced 9 = .ok (.getfield 21, 3) := by decide +kernel
theorem dX1_addReduced_12 : decode cX1_addReduced 12 = .ok (.iconst 1, 1) := by decide +kernel
theorem dX1_addReduced_13 : decode cX1_addReduced 13 = .ok (.isub, 1) := by decide +kernel
theorem dX1_addReduced_14 : decode cX1_addReduced 14 = .ok (.invokevirtual 25, 3) := by decide +kernel
theorem dX1_addReduced_17 : decode cX1_addReduced 17 = .ok (.iload_n 1, 1) := by decide +kernel
theorem dX1_addReduced_18 : decode cX1_addReduced 18 = .ok (.invokestatic 29, 3) := by decide +kernel
theorem dX1_addReduced_21 : decode cX1_addReduced 21 = .ok (.if_icmp .ne 16, 3) := by decide +kernel
theorem dX1_addReduced_24 : decode cX1_addReduced 24 = .ok (.aload_n 0, 1) := by decide +kernel
theorem dX1_addReduced_25 : decode cX1_addReduced 25 = .ok (.dup, 1) := by decide +kernel
theorem dX1_addReduced_26 : decode cX1_addReduced 26 = .ok (.getfield 21, 3) := by decide +kernel
theorem dX1_addReduced_29 : decode cX1_addReduced 29 = .ok (.iconst 1, 1) := by decide +kernel
theorem dX1_addReduced_30 : decode cX1_addReduced 30 = .ok (.isub, 1) := by decide +kernel
theorem dX1_addReduced_31 : decode cX1_addReduced 31 = .ok (.putfield 21, 3) := by decide +kernel
theorem dX1_addReduced_34 : decode cX1_addReduced 34 = .ok (.goto 8, 3) := by decide +kernel
theorem dX1_addReduced_37 : decode cX1_addReduced 37 = .ok (.aload_n 0, 1) := by decide +kernel
theorem dX1_addReduced_38 : decode cX1_addReduced 38 = .ok (.iload_n 1, 1) := by decide +kernel
theorem dX1_addReduced_39 : decode cX1_addReduced 39 = .ok (.invokevirtual 32, 3) := by decide +kernel
theorem dX1_addReduced_42 : decode cX1_addReduced 42 = .ok (.return_, 1) := by decide +kernel
theorem dX1_addAll_0 : decode cX1_addAll 0 = .ok (.iconst 0, 1) := by decide +kernel
theorem dX1_addAll_1 : decode cX1_addAll 1 = .ok (.istore_n 2, 1) := by decide +kernel
theorem dX1_addAll_2 : decode cX1_addAll 2 = .ok (.iload_n 2, 1) := by decide +kernel
theorem dX1_addAll_3 : decode cX1_addAll 3 = .ok (.aload_n 1, 1) := by decide +kernel
theorem dX1_addAll_4 : decode cX1_addAll 4 = .ok (.getfield 21, 3) := by decide +kernel
theorem dX1_addAll_7 : decode cX1_addAll 7 = .ok (.if_icmp .ge 18, 3) := by decide +kernel
theorem dX1_addAll_10 : decode cX1_addAll 10 = .ok (.aload_n 0, 1) := by decide +kernel
theorem dX1_addAll_11 : decode cX1_addAll 11 = .ok (.aload_n 1, 1) := by decide +kernel
theorem dX1_addAll_12 : decode cX1_addAll 12 = .ok (.iload_n 2, 1) := by decide +kernel
theorem dX1_addAll_13 : decode cX1_addAll 13 = .ok (.invokevirtual 25, 3) := by decide +kernel
theorem dX1_addAll_16 : decode cX1_addAll 16 = .ok (.invokevirtual 36, 3) := by decide +kernel
theorem dX1_addAll_19 : decode cX1_addAll 19 = .ok (.iinc 2 1, 3) := by decide +kernel
theorem dX1_addAll_22 : decode cX1_addAll 22 = .ok (.goto (-20), 3) := by decide +kernel
theorem dX1_addAll_25 : decode cX1_addAll 25 = .ok (.return_, 1) := by decide +kernel
theorem dX1_addUndone_0 : decode cX1_addUndone 0 = .ok (.aload_n 1, 1) := by decide +kernel
theorem dX1_addUndone_1 : decode cX1_addUndone 1 = .ok (.getfield 21, 3) := by decide +kernel
theorem dX1_addUndone_4 : decode cX1_addUndone 4 = .ok (.iconst 1, 1) := by decide +kernel
theorem dX1_addUndone_5 : decode cX1_addUndone 5 = .ok (.isub, 1) := by decide +kernel
theorem dX1_addUndone_6 : decode cX1_addUndone 6 = .ok (.istore_n 2, 1) := by decide +kernel
theorem dX1_addUndone_7 : decode cX1_addUndone 7 = .ok (.iload_n 2, 1) := by decide +kernel
theorem dX1_addUndone_8 : decode cX1_addUndone 8 = .ok (.ifCond .lt 21, 3) := by decide +kernel
theorem dX1_addUndone_11 : decode cX1_addUndone 11 = .ok (.aload_n 0, 1) := by decide +kernel
theorem dX1_addUndone_12 : decode cX1_addUndone 12 = .ok (.aload_n 1, 1) := by decide +kernel
theorem dX1_addUndone_13 : decode cX1_addUndone 13 = .ok (.iload_n 2, 1) := by decide +kernel
theorem dX1_addUndone_14 : decode cX1_addUndone 14 = .ok (.invokevirtual 25, 3) := by decide +kernel
theorem dX1_addUndone_17 : decode cX1_addUndone 17 = .ok (.invokestatic 29, 3) := by decide +kernel
theorem dX1_addUndone_20 : decode cX1_addUndone 20 = .ok (.invokevirtual 36, 3) := by decide +kernel
theorem dX1_addUndone_23 : decode cX1_addUndone 23 = .ok (.iinc 2 (-1), 3) := by decide +kernel
theorem dX1_addUndone_26 : decode cX1_addUndone 26 = .ok (.goto (-19), 3) := by decide +kernel
theorem dX1_addUndone_29 : decode cX1_addUndone 29 = .ok (.return_, 1) := by decide +kernel
theorem dX1_copyFrom_0 : decode cX1_copyFrom 0 = .ok (.aload_n 0, 1) := by decide +kernel
theorem dX1_copyFrom_1 : decode cX1_copyFrom 1 = .ok (.iconst 0, 1) := by decide +kernel
theorem dX1_copyFrom_2 : decode cX1_copyFrom 2 = .ok (.putfield 21, 3) := by decide +kernel
theorem dX1_copyFrom_5 : decode cX1_copyFrom 5 = .ok (.iconst 0, 1) := by decide +kernel
theorem dX1_copyFrom_6 : decode cX1_copyFrom 6 = .ok (.istore_n 2, 1) := by decide +kernel
theorem dX1_copyFrom_7 : decode cX1_copyFrom 7 = .ok (.iload_n 2, 1) := by decide +kernel
theorem dX1_copyFrom_8 : decode cX1_copyFrom 8 = .ok (.aload_n 1, 1) := by decide +kernel
theorem dX1_copyFrom_9 : decode cX1_copyFrom 9 = .ok (.getfield 21, 3) := by decide +kernel
theorem dX1_copyFrom_12 : decode cX1_copyFrom 12 = .ok (.if_icmp .ge 18, 3) := by decide +kernel
theorem dX1_copyFrom_15 : decode cX1_copyFrom 15 = .ok (.aload_n 0, 1) := by decide +kernel
theorem dX1_copyFrom_16 : decode cX1_copyFrom 16 = .ok (.aload_n 1, 1) := by decide +kernel
theorem dX1_copyFrom_17 : decode cX1_copyFrom 17 = .ok (.iload_n 2, 1) := by decide +kernel
theorem dX1_copyFrom_18 : decode cX1_copyFrom 18 = .ok (.invokevirtual 25, 3) := by decide +kernel
theorem dX1_copyFrom_21 : decode cX1_copyFrom 21 = .ok (.invokevirtual 32, 3) := by decide +kernel
theorem dX1_copyFrom_24 : decode cX1_copyFrom 24 = .ok (.iinc 2 1, 3) := by decide +kernel
theorem dX1_copyFrom_27 : decode cX1_copyFrom 27 = .ok (.goto (-20), 3) := by decide +kernel
theorem dX1_copyFrom_30 : decode cX1_copyFrom 30 = .ok (.return_, 1) := by decide +kernel
theorem dX2_init_0 : decode cX2_init 0 = .ok (.aload_n 0, 1) := by decide +kernel
theorem dX2_init_1 : decode cX2_init 1 = .ok (.invokespecial 3, 3) := by decide +kernel
theorem dX2_init_4 : decode cX2_init 4 = .ok (.aload_n 0, 1) := by decide +kernel
theorem dX2_init_5 : decode cX2_init 5 = .ok (.bipush 24, 2) := by decide +kernel
theorem dX2_init_7 : decode cX2_init 7 = .ok (.newarray .int, 2) := by decide +kernel
theorem dX2_init_9 : decode cX2_init 9 = .ok (.putfield 9, 3) := by decide +kernel
theorem dX2_init_12 : decode cX2_init 12 = .ok (.aload_n 0, 1) := by decide +kernel
theorem dX2_init_13 : decode cX2_init 13 = .ok (.iconst 0, 1) := by decide +kernel
theorem dX2_init_14 : decode cX2_init 14 = .ok (.putfield 15, 3) := by decide +kernel
theorem dX2_init_17 : decode cX2_init 17 = .ok (.return_, 1) := by decide +kernel
theorem dX2_size_0 : decode cX2_size 0 = .ok (.aload_n 0, 1) := by decide +kernel
theorem dX2_size_1 : decode cX2_size 1 = .ok (.getfield 15, 3) := by decide +kernel
theorem dX2_size_4 : decode cX2_size 4 = .ok (.ireturn, 1) := by decide +kernel
theorem dX2_codeAt_0 : decode cX2_codeAt 0 = .ok (.iload_n 1, 1) := by decide +kernel
theorem dX2_codeAt_1 : decode cX2_codeAt 1 = .ok (.ifCond .lt 29, 3) := by decide +kernel
theorem dX2_codeAt_4 : decode cX2_codeAt 4 = .ok (.iload_n 1, 1) := by decide +kernel
theorem dX2_codeAt_5 : decode cX2_codeAt 5 = .ok (.aload_n 0, 1) := by decide +kernel
theorem dX2_codeAt_6 : decode cX2_codeAt 6 = .ok (.getfield 15, 3) := by decide +kernel
theorem dX2_codeAt_9 : decode cX2_codeAt 9 = .ok (.if_icmp .ge 21, 3) := by decide +kernel
theorem dX2_codeAt_12 : decode cX2_codeAt 12 = .ok (.iload_n 1, 1) := by decide +kernel
theorem dX2_codeAt_13 : decode cX2_codeAt 13 = .ok (.aload_n 0, 1) := by decide +kernel
theorem dX2_codeAt_14 : decode cX2_codeAt 14 = .ok (.getfield 9, 3) := by decide +kernel
theorem dX2_codeAt_17 : decode cX2_codeAt 17 = .ok (.arraylength, 1) := by decide +kernel
theorem dX2_codeAt_18 : decode cX2_codeAt 18 = .ok (.if_icmp .ge 12, 3) := by decide +kernel
theorem dX2_codeAt_21 : decode cX2_codeAt 21 = .ok (.aload_n 0, 1) := by decide +kernel
theorem dX2_codeAt_22 : decode cX2_codeAt 22 = .ok (.getfield 9, 3) := by decide +kernel
theorem dX2_codeAt_25 : decode cX2_codeAt 25 = .ok (.iload_n 1, 1) := by decide +kernel
theorem dX2_codeAt_26 : decode cX2_codeAt 26 = .ok (.iaload, 1) := by decide +kernel
theorem dX2_codeAt_27 : decode cX2_codeAt 27 = .ok (.goto 4, 3) := by decide +kernel
theorem dX2_codeAt_30 : decode cX2_codeAt 30 = .ok (.iconst (-1), 1) := by decide +kernel
theorem dX2_codeAt_31 : decode cX2_codeAt 31 = .ok (.ireturn, 1) := by decide +kernel
theorem dX2_put_0 : decode cX2_put 0 = .ok (.aload_n 0, 1) := by decide +kernel
theorem dX2_put_1 : decode cX2_put 1 = .ok (.getfield 15, 3) := by decide +kernel
theorem dX2_put_4 : decode cX2_put 4 = .ok (.ifCond .lt 15, 3) := by decide +kernel
theorem dX2_put_7 : decode cX2_put 7 = .ok (.aload_n 0, 1) := by decide +kernel
theorem dX2_put_8 : decode cX2_put 8 = .ok (.getfield 15, 3) := by decide +kernel
theorem dX2_put_11 : decode cX2_put 11 = .ok (.aload_n 0, 1) := by decide +kernel
theorem dX2_put_12 : decode cX2_put 12 = .ok (.getfield 9, 3) := by decide +kernel
theorem dX2_put_15 : decode cX2_put 15 = .ok (.arraylength, 1) := by decide +kernel
theorem dX2_put_16 : decode cX2_put 16 = .ok (.if_icmp .lt 5, 3) := by decide +kernel
theorem dX2_put_19 : decode cX2_put 19 = .ok (.iconst 0, 1) := by decide +kernel
theorem dX2_put_20 : decode cX2_put 20 = .ok (.ireturn, 1) := by decide +kernel
theorem dX2_put_21 : decode cX2_put 21 = .ok (.aload_n 0, 1) := by decide +kernel
theorem dX2_put_22 : decode cX2_put 22 = .ok (.getfield 9, 3) := by decide +kernel
theorem dX2_put_25 : decode cX2_put 25 = .ok (.aload_n 0, 1) := by decide +kernel
theorem dX2_put_26 : decode cX2_put 26 = .ok (.getfield 15, 3) := by decide +kernel
theorem dX2_put_29 : decode cX2_put 29 = .ok (.iload_n 1, 1) := by decide +kernel
theorem dX2_put_30 : decode cX2_put 30 = .ok (.iastore, 1) := by decide +kernel
theorem dX2_put_31 : decode cX2_put 31 = .ok (.aload_n 0, 1) := by decide +kernel
theorem dX2_put_32 : decode cX2_put 32 = .ok (.dup, 1) := by decide +kernel
theorem dX2_put_33 : decode cX2_put 33 = .ok (.getfield 15, 3) := by decide +kernel
theorem dX2_put_36 : decode cX2_put 36 = .ok (.iconst 1, 1) := by decide +kernel
theorem dX2_put_37 : decode cX2_put 37 = .ok (.iadd, 1) := by decide +kernel
theorem dX2_put_38 : decode cX2_put 38 = .ok (.putfield 15, 3) := by decide +kernel
theorem dX2_put_41 : decode cX2_put 41 = .ok (.iconst 1, 1) := by decide +kernel
theorem dX2_put_42 : decode cX2_put 42 = .ok (.ireturn, 1) := by decide +kernel
theorem dX2_clear_0 : decode cX2_clear 0 = .ok (.aload_n 0, 1) := by decide +kernel
theorem dX2_clear_1 : decode cX2_clear 1 = .ok (.iconst 0, 1) := by decide +kernel
theorem dX2_clear_2 : decode cX2_clear 2 = .ok (.putfield 15, 3) := by decide +kernel
theorem dX2_clear_5 : decode cX2_clear 5 = .ok (.return_, 1) := by decide +kernel
theorem dX2_firstFault_0 : decode cX2_firstFault 0 = .ok (.iconst 0, 1) := by decide +kernel
theorem dX2_firstFault_1 : decode cX2_firstFault 1 = .ok (.istore_n 1, 1) := by decide +kernel
theorem dX2_firstFault_2 : decode cX2_firstFault 2 = .ok (.iload_n 1, 1) := by decide +kernel
theorem dX2_firstFault_3 : decode cX2_firstFault 3 = .ok (.aload_n 0, 1) := by decide +kernel
theorem dX2_firstFault_4 : decode cX2_firstFault 4 = .ok (.getfield 15, 3) := by decide +kernel
theorem dX2_firstFault_7 : decode cX2_firstFault 7 = .ok (.if_icmp .ge 23, 3) := by decide +kernel
theorem dX2_firstFault_10 : decode cX2_firstFault 10 = .ok (.iload_n 1, 1) := by decide +kernel
theorem dX2_firstFault_11 : decode cX2_firstFault 11 = .ok (.aload_n 0, 1) := by decide +kernel
theorem dX2_firstFault_12 : decode cX2_firstFault 12 = .ok (.iload_n 1, 1) := by decide +kernel
theorem dX2_firstFault_13 : decode cX2_firstFault 13 = .ok (.invokevirtual 19, 3) := by decide +kernel
theorem dX2_firstFault_16 : decode cX2_firstFault 16 = .ok (.invokestatic 23, 3) := by decide +kernel
theorem dX2_firstFault_19 : decode cX2_firstFault 19 = .ok (.ifCond .ne 5, 3) := by decide +kernel
theorem dX2_firstFault_22 : decode cX2_firstFault 22 = .ok (.iload_n 1, 1) := by decide +kernel
theorem dX2_firstFault_23 : decode cX2_firstFault 23 = .ok (.ireturn, 1) := by decide +kernel
theorem dX2_firstFault_24 : decode cX2_firstFault 24 = .ok (.iinc 1 1, 3) := by decide +kernel
theorem dX2_firstFault_27 : decode cX2_firstFault 27 = .ok (.goto (-25), 3) := by decide +kernel
theorem dX2_firstFault_30 : decode cX2_firstFault 30 = .ok (.aload_n 0, 1) := by decide +kernel
theorem dX2_firstFault_31 : decode cX2_firstFault 31 = .ok (.getfield 15, 3) := by decide +kernel
theorem dX2_firstFault_34 : decode cX2_firstFault 34 = .ok (.ireturn, 1) := by decide +kernel
theorem dX2_isMachine_0 : decode cX2_isMachine 0 = .ok (.aload_n 0, 1) := by decide +kernel
theorem dX2_isMachine_1 : decode cX2_isMachine 1 = .ok (.getfield 15, 3) := by decide +kernel
theorem dX2_isMachine_4 : decode cX2_isMachine 4 = .ok (.iconst 4, 1) := by decide +kernel
theorem dX2_isMachine_5 : decode cX2_isMachine 5 = .ok (.irem, 1) := by decide +kernel
theorem dX2_isMachine_6 : decode cX2_isMachine 6 = .ok (.iconst 3, 1) := by decide +kernel
theorem dX2_isMachine_7 : decode cX2_isMachine 7 = .ok (.if_icmp .ne 14, 3) := by decide +kernel
theorem dX2_isMachine_10 : decode cX2_isMachine 10 = .ok (.aload_n 0, 1) := by decide +kernel
theorem dX2_isMachine_11 : decode cX2_isMachine 11 = .ok (.invokevirtual 27, 3) := by decide +kernel
theorem dX2_isMachine_14 : decode cX2_isMachine 14 = .ok (.aload_n 0, 1) := by decide +kernel
theorem dX2_isMachine_15 : decode cX2_isMachine 15 = .ok (.getfield 15, 3) := by decide +kernel
theorem dX2_isMachine_18 : decode cX2_isMachine 18 = .ok (.if_icmp .ge 5, 3) := by decide +kernel
theorem dX2_isMachine_21 : decode cX2_isMachine 21 = .ok (.iconst 0, 1) := by decide +kernel
theorem dX2_isMachine_22 : decode cX2_isMachine 22 = .ok (.ireturn, 1) := by decide +kernel
theorem dX2_isMachine_23 : decode cX2_isMachine 23 = .ok (.aload_n 0, 1) := by decide +kernel
theorem dX2_isMachine_24 : decode cX2_isMachine 24 = .ok (.invokevirtual 31, 3) := by decide +kernel
theorem dX2_isMachine_27 : decode cX2_isMachine 27 = .ok (.istore_n 1, 1) := by decide +kernel
theorem dX2_isMachine_28 : decode cX2_isMachine 28 = .ok (.iconst 0, 1) := by decide +kernel
theorem dX2_isMachine_29 : decode cX2_isMachine 29 = .ok (.istore_n 2, 1) := by decide +kernel
theorem dX2_isMachine_30 : decode cX2_isMachine 30 = .ok (.iload_n 2, 1) := by decide +kernel
theorem dX2_isMachine_31 : decode cX2_isMachine 31 = .ok (.iload_n 1, 1) := by decide +kernel
theorem dX2_isMachine_32 : decode cX2_isMachine 32 = .ok (.if_icmp .ge 31, 3) := by decide +kernel
theorem dX2_isMachine_35 : decode cX2_isMachine 35 = .ok (.aload_n 0, 1) := by decide +kernel
theorem dX2_isMachine_36 : decode cX2_isMachine 36 = .ok (.iload_n 2, 1) := by decide +kernel
theorem dX2_isMachine_37 : decode cX2_isMachine 37 = .ok (.iconst 0, 1) := by decide +kernel
theorem dX2_isMachine_38 : decode cX2_isMachine 38 = .ok (.invokevirtual 34, 3) := by decide +kernel
theorem dX2_isMachine_41 : decode cX2_isMachine 41 = .ok (.iload_n 1, 1) := by decide +kernel
theorem dX2_isMachine_42 : decode cX2_isMachine 42 = .ok (.if_icmp .ge 13, 3) := by decide +kernel
theorem dX2_isMachine_45 : decode cX2_isMachine 45 = .ok (.aload_n 0, 1) := by decide +kernel
theorem dX2_isMachine_46 : decode cX2_isMachine 46 = .ok (.iload_n 2, 1) := by decide +kernel
theorem dX2_isMachine_47 : decode cX2_isMachine 47 = .ok (.iconst 1, 1) := by decide +kernel
theorem dX2_isMachine_48 : decode cX2_isMachine 48 = .ok (.invokevirtual 34, 3) := by decide +kernel
theorem dX2_isMachine_51 : decode cX2_isMachine 51 = .ok (.iload_n 1, 1) := by decide +kernel
theorem dX2_isMachine_52 : decode cX2_isMachine 52 = .ok (.if_icmp .lt 5, 3) := by decide +kernel
theorem dX2_isMachine_55 : decode cX2_isMachine 55 = .ok (.iconst 0, 1) := by decide +kernel
theorem dX2_isMachine_56 : decode cX2_isMachine 56 = .ok (.ireturn, 1) := by decide +kernel
theorem dX2_isMachine_57 : decode cX2_isMachine 57 = .ok (.iinc 2 1, 3) := by decide +kernel
theorem dX2_isMachine_60 : decode cX2_isMachine 60 = .ok (.goto (-30), 3) := by decide +kernel
theorem dX2_isMachine_63 : decode cX2_isMachine 63 = .ok (.iconst 1, 1) := by decide +kernel
theorem dX2_isMachine_64 : decode cX2_isMachine 64 = .ok (.ireturn, 1) := by decide +kernel
theorem dX2_statesTold_0 : decode cX2_statesTold 0 = .ok (.aload_n 0, 1) := by decide +kernel
theorem dX2_statesTold_1 : decode cX2_statesTold 1 = .ok (.getfield 15, 3) := by decide +kernel
theorem dX2_statesTold_4 : decode cX2_statesTold 4 = .ok (.iconst 1, 1) := by decide +kernel
theorem dX2_statesTold_5 : decode cX2_statesTold 5 = .ok (.iadd, 1) := by decide +kernel
theorem dX2_statesTold_6 : decode cX2_statesTold 6 = .ok (.iconst 4, 1) := by decide +kernel
theorem dX2_statesTold_7 : decode cX2_statesTold 7 = .ok (.idiv, 1) := by decide +kernel
theorem dX2_statesTold_8 : decode cX2_statesTold 8 = .ok (.ireturn, 1) := by decide +kernel
theorem dX2_kindTold_0 : decode cX2_kindTold 0 = .ok (.aload_n 0, 1) := by decide +kernel
theorem dX2_kindTold_1 : decode cX2_kindTold 1 = .ok (.iconst 4, 1) := by decide +kernel
theorem dX2_kindTold_2 : decode cX2_kindTold 2 = .ok (.iload_n 1, 1) := by decide +kernel
theorem dX2_kindTold_3 : decode cX2_kindTold 3 = .ok (.imul, 1) := by decide +kernel
theorem dX2_kindTold_4 : decode cX2_kindTold 4 = .ok (.invokevirtual 19, 3) := by decide +kernel
theorem dX2_kindTold_7 : decode cX2_kindTold 7 = .ok (.invokestatic 38, 3) := by decide +kernel
theorem dX2_kindTold_10 : decode cX2_kindTold 10 = .ok (.ireturn, 1) := by decide +kernel
theorem dX2_nextTold_0 : decode cX2_nextTold 0 = .ok (.aload_n 0, 1) := by decide +kernel
theorem dX2_nextTold_1 : decode cX2_nextTold 1 = .ok (.iconst 4, 1) := by decide +kernel
theorem dX2_nextTold_2 : decode cX2_nextTold 2 = .ok (.iload_n 1, 1) := by decide +kernel
theorem dX2_nextTold_3 : decode cX2_nextTold 3 = .ok (.imul, 1) := by decide +kernel
theorem dX2_nextTold_4 : decode cX2_nextTold 4 = .ok (.iconst 1, 1) := by decide +kernel
theorem dX2_nextTold_5 : decode cX2_nextTold 5 = .ok (.iadd, 1) := by decide +kernel
theorem dX2_nextTold_6 : decode cX2_nextTold 6 = .ok (.iload_n 2, 1) := by decide +kernel
theorem dX2_nextTold_7 : decode cX2_nextTold 7 = .ok (.iadd, 1) := by decide +kernel
theorem dX2_nextTold_8 : decode cX2_nextTold 8 = .ok (.invokevirtual 19, 3) := by decide +kernel
theorem dX2_nextTold_11 : decode cX2_nextTold 11 = .ok (.istore_n 3, 1) := by decide +kernel
theorem dX2_nextTold_12 : decode cX2_nextTold 12 = .ok (.iload_n 3, 1) := by decide +kernel
theorem dX2_nextTold_13 : decode cX2_nextTold 13 = .ok (.invokestatic 41, 3) := by decide +kernel
theorem dX2_nextTold_16 : decode cX2_nextTold 16 = .ok (.ifCond .eq 10, 3) := by decide +kernel
theorem dX2_nextTold_19 : decode cX2_nextTold 19 = .ok (.iload_n 3, 1) := by decide +kernel
theorem dX2_nextTold_20 : decode cX2_nextTold 20 = .ok (.bipush 48, 2) := by decide +kernel
theorem dX2_nextTold_22 : decode cX2_nextTold 22 = .ok (.isub, 1) := by decide +kernel
theorem dX2_nextTold_23 : decode cX2_nextTold 23 = .ok (.goto 4, 3) := by decide +kernel
theorem dX2_nextTold_26 : decode cX2_nextTold 26 = .ok (.iconst (-1), 1) := by decide +kernel
theorem dX2_nextTold_27 : decode cX2_nextTold 27 = .ok (.ireturn, 1) := by decide +kernel
theorem dX2_fits_0 : decode cX2_fits 0 = .ok (.iload_n 0, 1) := by decide +kernel
theorem dX2_fits_1 : decode cX2_fits 1 = .ok (.bipush 23, 2) := by decide +kernel
theorem dX2_fits_3 : decode cX2_fits 3 = .ok (.if_icmp .lt 5, 3) := by decide +kernel
theorem dX2_fits_6 : decode cX2_fits 6 = .ok (.iconst 0, 1) := by decide +kernel
theorem dX2_fits_7 : decode cX2_fits 7 = .ok (.ireturn, 1) := by decide +kernel
theorem dX2_fits_8 : decode cX2_fits 8 = .ok (.iload_n 0, 1) := by decide +kernel
theorem dX2_fits_9 : decode cX2_fits 9 = .ok (.iconst 4, 1) := by decide +kernel
theorem dX2_fits_10 : decode cX2_fits 10 = .ok (.irem, 1) := by decide +kernel
theorem dX2_fits_11 : decode cX2_fits 11 = .ok (.lookupswitch 51 #[(0, 25), (3, 39)], 25) := by decide +kernel
theorem dX2_fits_36 : decode cX2_fits 36 = .ok (.iload_n 1, 1) := by decide +kernel
theorem dX2_fits_37 : decode cX2_fits 37 = .ok (.invokestatic 38, 3) := by decide +kernel
theorem dX2_fits_40 : decode cX2_fits 40 = .ok (.iconst (-1), 1) := by decide +kernel
theorem dX2_fits_41 : decode cX2_fits 41 = .ok (.if_icmp .eq 7, 3) := by decide +kernel
theorem dX2_fits_44 : decode cX2_fits 44 = .ok (.iconst 1, 1) := by decide +kernel
theorem dX2_fits_45 : decode cX2_fits 45 = .ok (.goto 4, 3) := by decide +kernel
theorem dX2_fits_48 : decode cX2_fits 48 = .ok (.iconst 0, 1) := by decide +kernel
theorem dX2_fits_49 : decode cX2_fits 49 = .ok (.ireturn, 1) := by decide +kernel
theorem dX2_fits_50 : decode cX2_fits 50 = .ok (.iload_n 1, 1) := by decide +kernel
theorem dX2_fits_51 : decode cX2_fits 51 = .ok (.bipush 44, 2) := by decide +kernel
theorem dX2_fits_53 : decode cX2_fits 53 = .ok (.if_icmp .ne 7, 3) := by decide +kernel
theorem dX2_fits_56 : decode cX2_fits 56 = .ok (.iconst 1, 1) := by decide +kernel
theorem dX2_fits_57 : decode cX2_fits 57 = .ok (.goto 4, 3) := by decide +kernel
theorem dX2_fits_60 : decode cX2_fits 60 = .ok (.iconst 0, 1) := by decide +kernel
theorem dX2_fits_61 : decode cX2_fits 61 = .ok (.ireturn, 1) := by decide +kernel
theorem dX2_fits_62 : decode cX2_fits 62 = .ok (.iload_n 1, 1) := by decide +kernel
theorem dX2_fits_63 : decode cX2_fits 63 = .ok (.bipush 45, 2) := by decide +kernel
theorem dX2_fits_65 : decode cX2_fits 65 = .ok (.if_icmp .eq 10, 3) := by decide +kernel
theorem dX2_fits_68 : decode cX2_fits 68 = .ok (.iload_n 1, 1) := by decide +kernel
theorem dX2_fits_69 : decode cX2_fits 69 = .ok (.invokestatic 41, 3) := by decide +kernel
theorem dX2_fits_72 : decode cX2_fits 72 = .ok (.ifCond .eq 7, 3) := by decide +kernel
theorem dX2_fits_75 : decode cX2_fits 75 = .ok (.iconst 1, 1) := by decide +kernel
theorem dX2_fits_76 : decode cX2_fits 76 = .ok (.goto 4, 3) := by decide +kernel
theorem dX2_fits_79 : decode cX2_fits 79 = .ok (.iconst 0, 1) := by decide +kernel
theorem dX2_fits_80 : decode cX2_fits 80 = .ok (.ireturn, 1) := by decide +kernel
theorem dX2_isDigit_0 : decode cX2_isDigit 0 = .ok (.iload_n 0, 1) := by decide +kernel
theorem dX2_isDigit_1 : decode cX2_isDigit 1 = .ok (.bipush 48, 2) := by decide +kernel
theorem dX2_isDigit_3 : decode cX2_isDigit 3 = .ok (.if_icmp .lt 13, 3) := by decide +kernel
theorem dX2_isDigit_6 : decode cX2_isDigit 6 = .ok (.iload_n 0, 1) := by decide +kernel
theorem dX2_isDigit_7 : decode cX2_isDigit 7 = .ok (.bipush 54, 2) := by decide +kernel
theorem dX2_isDigit_9 : decode cX2_isDigit 9 = .ok (.if_icmp .ge 7, 3) := by decide +kernel
theorem dX2_isDigit_12 : decode cX2_isDigit 12 = .ok (.iconst 1, 1) := by decide +kernel
theorem dX2_isDigit_13 : decode cX2_isDigit 13 = .ok (.goto 4, 3) := by decide +kernel
theorem dX2_isDigit_16 : decode cX2_isDigit 16 = .ok (.iconst 0, 1) := by decide +kernel
theorem dX2_isDigit_17 : decode cX2_isDigit 17 = .ok (.ireturn, 1) := by decide +kernel
theorem dX2_kindOfCode_0 : decode cX2_kindOfCode 0 = .ok (.iconst 0, 1) := by decide +kernel
theorem dX2_kindOfCode_1 : decode cX2_kindOfCode 1 = .ok (.istore_n 1, 1) := by decide +kernel
theorem dX2_kindOfCode_2 : decode cX2_kindOfCode 2 = .ok (.iload_n 1, 1) := by decide +kernel
theorem dX2_kindOfCode_3 : decode cX2_kindOfCode 3 = .ok (.ldc 45, 2) := by decide +kernel
theorem dX2_kindOfCode_5 : decode cX2_kindOfCode 5 = .ok (.invokevirtual 47, 3) := by decide +kernel
theorem dX2_kindOfCode_8 : decode cX2_kindOfCode 8 = .ok (.if_icmp .ge 21, 3) := by decide +kernel
theorem dX2_kindOfCode_11 : decode cX2_kindOfCode 11 = .ok (.ldc 45, 2) := by decide +kernel
theorem dX2_kindOfCode_13 : decode cX2_kindOfCode 13 = .ok (.iload_n 1, 1) := by decide +kernel
theorem dX2_kindOfCode_14 : decode cX2_kindOfCode 14 = .ok (.invokevirtual 52, 3) := by decide +kernel
theorem dX2_kindOfCode_17 : decode cX2_kindOfCode 17 = .ok (.iload_n 0, 1) := by decide +kernel
theorem dX2_kindOfCode_18 : decode cX2_kindOfCode 18 = .ok (.if_icmp .ne 5, 3) := by decide +kernel
theorem dX2_kindOfCode_21 : decode cX2_kindOfCode 21 = .ok (.iload_n 1, 1) := by decide +kernel
theorem dX2_kindOfCode_22 : decode cX2_kindOfCode 22 = .ok (.ireturn, 1) := by decide +kernel
theorem dX2_kindOfCode_23 : decode cX2_kindOfCode 23 = .ok (.iinc 1 1, 3) := by decide +kernel
theorem dX2_kindOfCode_26 : decode cX2_kindOfCode 26 = .ok (.goto (-24), 3) := by decide +kernel
theorem dX2_kindOfCode_29 : decode cX2_kindOfCode 29 = .ok (.iconst (-1), 1) := by decide +kernel
theorem dX2_kindOfCode_30 : decode cX2_kindOfCode 30 = .ok (.ireturn, 1) := by decide +kernel
theorem dX4_init_0 : decode cX4_init 0 = .ok (.aload_n 0, 1) := by decide +kernel
theorem dX4_init_1 : decode cX4_init 1 = .ok (.invokespecial 3, 3) := by decide +kernel
theorem dX4_init_4 : decode cX4_init 4 = .ok (.aload_n 0, 1) := by decide +kernel
theorem dX4_init_5 : decode cX4_init 5 = .ok (.sipush 328, 3) := by decide +kernel
theorem dX4_init_8 : decode cX4_init 8 = .ok (.newarray .long, 2) := by decide +kernel
theorem dX4_init_10 : decode cX4_init 10 = .ok (.putfield 9, 3) := by decide +kernel
theorem dX4_init_13 : decode cX4_init 13 = .ok (.aload_n 0, 1) := by decide +kernel
theorem dX4_init_14 : decode cX4_init 14 = .ok (.bipush 8, 2) := by decide +kernel
theorem dX4_init_16 : decode cX4_init 16 = .ok (.newarray .long, 2) := by decide +kernel
theorem dX4_init_18 : decode cX4_init 18 = .ok (.putfield 15, 3) := by decide +kernel
theorem dX4_init_21 : decode cX4_init 21 = .ok (.aload_n 0, 1) := by decide +kernel
theorem dX4_init_22 : decode cX4_init 22 = .ok (.new 18, 3) := by decide +kernel
theorem dX4_init_25 : decode cX4_init 25 = .ok (.dup, 1) := by decide +kernel
theorem dX4_init_26 : decode cX4_init 26 = .ok (.sipush 128, 3) := by decide +kernel
theorem dX4_init_29 : decode cX4_init 29 = .ok (.invokespecial 20, 3) := by decide +kernel
theorem dX4_init_32 : decode cX4_init 32 = .ok (.putfield 23, 3) := by decide +kernel
theorem dX4_init_35 : decode cX4_init 35 = .ok (.aload_n 0, 1) := by decide +kernel
theorem dX4_init_36 : decode cX4_init 36 = .ok (.new 18, 3) := by decide +kernel
theorem dX4_init_39 : decode cX4_init 39 = .ok (.dup, 1) := by decide +kernel
theorem dX4_init_40 : decode cX4_init 40 = .ok (.sipush 128, 3) := by decide +kernel
theorem dX4_init_43 : decode cX4_init 43 = .ok (.invokespecial 20, 3) := by decide +kernel
theorem dX4_init_46 : decode cX4_init 46 = .ok (.putfield 27, 3) := by decide +kernel
theorem dX4_init_49 : decode cX4_init 49 = .ok (.aload_n 0, 1) := by decide +kernel
theorem dX4_init_50 : decode cX4_init 50 = .ok (.iconst 0, 1) := by decide +kernel
theorem dX4_init_51 : decode cX4_init 51 = .ok (.putfield 30, 3) := by decide +kernel
theorem dX4_init_54 : decode cX4_init 54 = .ok (.return_, 1) := by decide +kernel
theorem dX4_tellNothing_0 : decode cX4_tellNothing 0 = .ok (.aload_n 0, 1) := by decide +kernel
theorem dX4_tellNothing_1 : decode cX4_tellNothing 1 = .ok (.iconst 0, 1) := by decide +kernel
theorem dX4_tellNothing_2 : decode cX4_tellNothing 2 = .ok (.putfield 30, 3) := by decide +kernel
theorem dX4_tellNothing_5 : decode cX4_tellNothing 5 = .ok (.aload_n 0, 1) := by decide +kernel
theorem dX4_tellNothing_6 : decode cX4_tellNothing 6 = .ok (.aload_n 2, 1) := by decide +kernel
theorem dX4_tellNothing_7 : decode cX4_tellNothing 7 = .ok (.invokevirtual 34, 3) := by decide +kernel
theorem dX4_tellNothing_10 : decode cX4_tellNothing 10 = .ok (.iconst 0, 1) := by decide +kernel
theorem dX4_tellNothing_11 : decode cX4_tellNothing 11 = .ok (.istore_n 3, 1) := by decide +kernel
theorem dX4_tellNothing_12 : decode cX4_tellNothing 12 = .ok (.iload_n 3, 1) := by decide +kernel
theorem dX4_tellNothing_13 : decode cX4_tellNothing 13 = .ok (.bipush 40, 2) := by decide +kernel
theorem dX4_tellNothing_15 : decode cX4_tellNothing 15 = .ok (.if_icmp .ge 72, 3) := by decide +kernel
theorem dX4_tellNothing_18 : decode cX4_tellNothing 18 = .ok (.iload_n 3, 1) := by decide +kernel
theorem dX4_tellNothing_19 : decode cX4_tellNothing 19 = .ok (.aload_n 0, 1) := by decide +kernel
theorem dX4_tellNothing_20 : decode cX4_tellNothing 20 = .ok (.getfield 30, 3) := by decide +kernel
theorem dX4_tellNothing_23 : decode cX4_tellNothing 23 = .ok (.if_icmp .ge 64, 3) := by decide +kernel
theorem dX4_tellNothing_26 : decode cX4_tellNothing 26 = .ok (.aload_n 0, 1) := by decide +kernel
theorem dX4_tellNothing_27 : decode cX4_tellNothing 27 = .ok (.iload_n 3, 1) := by decide +kernel
theorem dX4_tellNothing_28 : decode cX4_tellNothing 28 = .ok (.invokevirtual 38, 3) := by decide +kernel
theorem dX4_tellNothing_31 : decode cX4_tellNothing 31 = .ok (.aload_n 1, 1) := by decide +kernel
theorem dX4_tellNothing_32 : decode cX4_tellNothing 32 = .ok (.aload_n 0, 1) := by decide +kernel
theorem dX4_tellNothing_33 : decode cX4_tellNothing 33 = .ok (.getfield 23, 3) := by decide +kernel
theorem dX4_tellNothing_36 : decode cX4_tellNothing 36 = .ok (.invokevirtual 41, 3) := by decide +kernel
theorem dX4_tellNothing_39 : decode cX4_tellNothing 39 = .ok (.ifCond .eq 5, 3) := by decide +kernel
theorem dX4_tellNothing_42 : decode cX4_tellNothing 42 = .ok (.iconst 0, 1) := by decide +kernel
theorem dX4_tellNothing_43 : decode cX4_tellNothing 43 = .ok (.ireturn, 1) := by decide +kernel
theorem dX4_tellNothing_44 : decode cX4_tellNothing 44 = .ok (.iconst 0, 1) := by decide +kernel
theorem dX4_tellNothing_45 : decode cX4_tellNothing 45 = .ok (.istore 4, 2) := by decide +kernel
theorem dX4_tellNothing_47 : decode cX4_tellNothing 47 = .ok (.iload 4, 2) := by decide +kernel
theorem dX4_tellNothing_49 : decode cX4_tellNothing 49 = .ok (.iconst 1, 1) := by decide +kernel
theorem dX4_tellNothing_50 : decode cX4_tellNothing 50 = .ok (.if_icmp .gt 31, 3) := by decide +kernel
theorem dX4_tellNothing_53 : decode cX4_tellNothing 53 = .ok (.aload_n 1, 1) := by decide +kernel
theorem dX4_tellNothing_54 : decode cX4_tellNothing 54 = .ok (.aload_n 0, 1) := by decide +kernel
theorem dX4_tellNothing_55 : decode cX4_tellNothing 55 = .ok (.getfield 23, 3) := by decide +kernel
theorem dX4_tellNothing_58 : decode cX4_tellNothing 58 = .ok (.iload 4, 2) := by decide +kernel
theorem dX4_tellNothing_60 : decode cX4_tellNothing 60 = .ok (.aload_n 0, 1) := by decide +kernel
theorem dX4_tellNothing_61 : decode cX4_tellNothing 61 = .ok (.getfield 27, 3) := by decide +kernel
theorem dX4_tellNothing_64 : decode cX4_tellNothing 64 = .ok (.invokevirtual 47, 3) := by decide +kernel
theorem dX4_tellNothing_67 : decode cX4_tellNothing 67 = .ok (.aload_n 0, 1) := by decide +kernel
theorem dX4_tellNothing_68 : decode cX4_tellNothing 68 = .ok (.aload_n 0, 1) := by decide +kernel
theorem dX4_tellNothing_69 : decode cX4_tellNothing 69 = .ok (.getfield 27, 3) := by decide +kernel
theorem dX4_tellNothing_72 : decode cX4_tellNothing 72 = .ok (.invokevirtual 34, 3) := by decide +kernel
theorem dX4_tellNothing_75 : decode cX4_tellNothing 75 = .ok (.iinc 4 1, 3) := by decide +kernel
theorem dX4_tellNothing_78 : decode cX4_tellNothing 78 = .ok (.goto (-31), 3) := by decide +kernel
theorem dX4_tellNothing_81 : decode cX4_tellNothing 81 = .ok (.iinc 3 1, 3) := by decide +kernel
theorem dX4_tellNothing_84 : decode cX4_tellNothing 84 = .ok (.goto (-72), 3) := by decide +kernel
theorem dX4_tellNothing_87 : decode cX4_tellNothing 87 = .ok (.aload_n 0, 1) := by decide +kernel
theorem dX4_tellNothing_88 : decode cX4_tellNothing 88 = .ok (.getfield 30, 3) := by decide +kernel
theorem dX4_tellNothing_91 : decode cX4_tellNothing 91 = .ok (.bipush 40, 2) := by decide +kernel
theorem dX4_tellNothing_93 : decode cX4_tellNothing 93 = .ok (.if_icmp .le 7, 3) := by decide +kernel
theorem dX4_tellNothing_96 : decode cX4_tellNothing 96 = .ok (.iconst (-1), 1) := by decide +kernel
theorem dX4_tellNothing_97 : decode cX4_tellNothing 97 = .ok (.goto 4, 3) := by decide +kernel
theorem dX4_tellNothing_100 : decode cX4_tellNothing 100 = .ok (.iconst 1, 1) := by decide +kernel
theorem dX4_tellNothing_101 : decode cX4_tellNothing 101 = .ok (.ireturn, 1) := by decide +kernel
theorem dX4_find_0 : decode cX4_find 0 = .ok (.aload_n 0, 1) := by decide +kernel
theorem dX4_find_1 : decode cX4_find 1 = .ok (.getfield 30, 3) := by decide +kernel
theorem dX4_find_4 : decode cX4_find 4 = .ok (.bipush 40, 2) := by decide +kernel
theorem dX4_find_6 : decode cX4_find 6 = .ok (.if_icmp .le 4, 3) := by decide +kernel
theorem dX4_find_9 : decode cX4_find 9 = .ok (.return_, 1) := by decide +kernel
theorem dX4_find_10 : decode cX4_find 10 = .ok (.aload_n 0, 1) := by decide +kernel
theorem dX4_find_11 : decode cX4_find 11 = .ok (.aload_n 1, 1) := by decide +kernel
theorem dX4_find_12 : decode cX4_find 12 = .ok (.invokevirtual 51, 3) := by decide +kernel
theorem dX4_find_15 : decode cX4_find 15 = .ok (.iconst 0, 1) := by decide +kernel
theorem dX4_find_16 : decode cX4_find 16 = .ok (.istore_n 2, 1) := by decide +kernel
theorem dX4_find_17 : decode cX4_find 17 = .ok (.iload_n 2, 1) := by decide +kernel
theorem dX4_find_18 : decode cX4_find 18 = .ok (.aload_n 0, 1) := by decide +kernel
theorem dX4_find_19 : decode cX4_find 19 = .ok (.getfield 30, 3) := by decide +kernel
theorem dX4_find_22 : decode cX4_find 22 = .ok (.if_icmp .ge 18, 3) := by decide +kernel
theorem dX4_find_25 : decode cX4_find 25 = .ok (.aload_n 0, 1) := by decide +kernel
theorem dX4_find_26 : decode cX4_find 26 = .ok (.iload_n 2, 1) := by decide +kernel
theorem dX4_find_27 : decode cX4_find 27 = .ok (.invokevirtual 54, 3) := by decide +kernel
theorem dX4_find_30 : decode cX4_find 30 = .ok (.ifCond .eq 4, 3) := by decide +kernel
theorem dX4_find_33 : decode cX4_find 33 = .ok (.return_, 1) := by decide +kernel
theorem dX4_find_34 : decode cX4_find 34 = .ok (.iinc 2 1, 3) := by decide +kernel
theorem dX4_find_37 : decode cX4_find 37 = .ok (.goto (-20), 3) := by decide +kernel
theorem dX4_find_40 : decode cX4_find 40 = .ok (.aload_n 0, 1) := by decide +kernel
theorem dX4_find_41 : decode cX4_find 41 = .ok (.getfield 15, 3) := by decide +kernel
theorem dX4_find_44 : decode cX4_find 44 = .ok (.iconst 0, 1) := by decide +kernel
theorem dX4_find_45 : decode cX4_find 45 = .ok (.aload_n 0, 1) := by decide +kernel
theorem dX4_find_46 : decode cX4_find 46 = .ok (.getfield 9, 3) := by decide +kernel
theorem dX4_find_49 : decode cX4_find 49 = .ok (.aload_n 0, 1) := by decide +kernel
theorem dX4_find_50 : decode cX4_find 50 = .ok (.getfield 30, 3) := by decide +kernel
theorem dX4_find_53 : decode cX4_find 53 = .ok (.bipush 8, 2) := by decide +kernel
theorem dX4_find_55 : decode cX4_find 55 = .ok (.imul, 1) := by decide +kernel
theorem dX4_find_56 : decode cX4_find 56 = .ok (.bipush 8, 2) := by decide +kernel
theorem dX4_find_58 : decode cX4_find 58 = .ok (.invokestatic 58, 3) := by decide +kernel
theorem dX4_find_61 : decode cX4_find 61 = .ok (.aload_n 0, 1) := by decide +kernel
theorem dX4_find_62 : decode cX4_find 62 = .ok (.dup, 1) := by decide +kernel
theorem dX4_find_63 : decode cX4_find 63 = .ok (.getfield 30, 3) := by decide +kernel
theorem dX4_find_66 : decode cX4_find 66 = .ok (.iconst 1, 1) := by decide +kernel
theorem dX4_find_67 : decode cX4_find 67 = .ok (.iadd, 1) := by decide +kernel
theorem dX4_find_68 : decode cX4_find 68 = .ok (.putfield 30, 3) := by decide +kernel
theorem dX4_find_71 : decode cX4_find 71 = .ok (.return_, 1) := by decide +kernel
theorem dX4_isPackedAt_0 : decode cX4_isPackedAt 0 = .ok (.iload_n 1, 1) := by decide +kernel
theorem dX4_isPackedAt_1 : decode cX4_isPackedAt 1 = .ok (.ifCond .lt 9, 3) := by decide +kernel
theorem dX4_isPackedAt_4 : decode cX4_isPackedAt 4 = .ok (.iload_n 1, 1) := by decide +kernel
theorem dX4_isPackedAt_5 : decode cX4_isPackedAt 5 = .ok (.bipush 40, 2) := by decide +kernel
theorem dX4_isPackedAt_7 : decode cX4_isPackedAt 7 = .ok (.if_icmp .le 5, 3) := by decide +kernel
theorem dX4_isPackedAt_10 : decode cX4_isPackedAt 10 = .ok (.iconst 0, 1) := by decide +kernel
theorem dX4_isPackedAt_11 : decode cX4_isPackedAt 11 = .ok (.ireturn, 1) := by decide +kernel
theorem dX4_isPackedAt_12 : decode cX4_isPackedAt 12 = .ok (.iconst 0, 1) := by decide +kernel
theorem dX4_isPackedAt_13 : decode cX4_isPackedAt 13 = .ok (.istore_n 2, 1) := by decide +kernel
theorem dX4_isPackedAt_14 : decode cX4_isPackedAt 14 = .ok (.iload_n 2, 1) := by decide +kernel
theorem dX4_isPackedAt_15 : decode cX4_isPackedAt 15 = .ok (.bipush 8, 2) := by decide +kernel
theorem dX4_isPackedAt_17 : decode cX4_isPackedAt 17 = .ok (.if_icmp .ge 32, 3) := by decide +kernel
theorem dX4_isPackedAt_20 : decode cX4_isPackedAt 20 = .ok (.aload_n 0, 1) := by decide +kernel
theorem dX4_isPackedAt_21 : decode cX4_isPackedAt 21 = .ok (.getfield 9, 3) := by decide +kernel
theorem dX4_isPackedAt_24 : decode cX4_isPackedAt 24 = .ok (.iload_n 1, 1) := by decide +kernel
theorem dX4_isPackedAt_25 : decode cX4_isPackedAt 25 = .ok (.bipush 8, 2) := by decide +kernel
theorem dX4_isPackedAt_27 : decode cX4_isPackedAt 27 = .ok (.imul, 1) := by decide +kernel
theorem dX4_isPackedAt_28 : decode cX4_isPackedAt 28 = .ok (.iload_n 2, 1) := by decide +kernel
theorem dX4_isPackedAt_29 : decode cX4_isPackedAt 29 = .ok (.iadd, 1) := by decide +kernel
theorem dX4_isPackedAt_30 : decode cX4_isPackedAt 30 = .ok (.laload, 1) := by decide +kernel
theorem dX4_isPackedAt_31 : decode cX4_isPackedAt 31 = .ok (.aload_n 0, 1) := by decide +kernel
theorem dX4_isPackedAt_32 : decode cX4_isPackedAt 32 = .ok (.getfield 15, 3) := by decide +kernel
theorem dX4_isPackedAt_35 : decode cX4_isPackedAt 35 = .ok (.iload_n 2, 1) := by decide +kernel
theorem dX4_isPackedAt_36 : decode cX4_isPackedAt 36 = .ok (.laload, 1) := by decide +kernel
theorem dX4_isPackedAt_37 : decode cX4_isPackedAt 37 = .ok (.lcmp, 1) := by decide +kernel
theorem dX4_isPackedAt_38 : decode cX4_isPackedAt 38 = .ok (.ifCond .eq 5, 3) := by decide +kernel
theorem dX4_isPackedAt_41 : decode cX4_isPackedAt 41 = .ok (.iconst 0, 1) := by decide +kernel
theorem dX4_isPackedAt_42 : decode cX4_isPackedAt 42 = .ok (.ireturn, 1) := by decide +kernel
theorem dX4_isPackedAt_43 : decode cX4_isPackedAt 43 = .ok (.iinc 2 1, 3) := by decide +kernel
theorem dX4_isPackedAt_46 : decode cX4_isPackedAt 46 = .ok (.goto (-32), 3) := by decide +kernel
theorem dX4_isPackedAt_49 : decode cX4_isPackedAt 49 = .ok (.iconst 1, 1) := by decide +kernel
theorem dX4_isPackedAt_50 : decode cX4_isPackedAt 50 = .ok (.ireturn, 1) := by decide +kernel
theorem dX4_pack_0 : decode cX4_pack 0 = .ok (.iconst 0, 1) := by decide +kernel
theorem dX4_pack_1 : decode cX4_pack 1 = .ok (.istore_n 2, 1) := by decide +kernel
theorem dX4_pack_2 : decode cX4_pack 2 = .ok (.iload_n 2, 1) := by decide +kernel
theorem dX4_pack_3 : decode cX4_pack 3 = .ok (.bipush 8, 2) := by decide +kernel
theorem dX4_pack_5 : decode cX4_pack 5 = .ok (.if_icmp .ge 16, 3) := by decide +kernel
theorem dX4_pack_8 : decode cX4_pack 8 = .ok (.aload_n 0, 1) := by decide +kernel
theorem dX4_pack_9 : decode cX4_pack 9 = .ok (.getfield 15, 3) := by decide +kernel
theorem dX4_pack_12 : decode cX4_pack 12 = .ok (.iload_n 2, 1) := by decide +kernel
theorem dX4_pack_13 : decode cX4_pack 13 = .ok (.lconst 0, 1) := by decide +kernel
theorem dX4_pack_14 : decode cX4_pack 14 = .ok (.lastore, 1) := by decide +kernel
theorem dX4_pack_15 : decode cX4_pack 15 = .ok (.iinc 2 1, 3) := by decide +kernel
theorem dX4_pack_18 : decode cX4_pack 18 = .ok (.goto (-16), 3) := by decide +kernel
theorem dX4_pack_21 : decode cX4_pack 21 = .ok (.iconst 0, 1) := by decide +kernel
theorem dX4_pack_22 : decode cX4_pack 22 = .ok (.istore_n 2, 1) := by decide +kernel
theorem dX4_pack_23 : decode cX4_pack 23 = .ok (.iload_n 2, 1) := by decide +kernel
theorem dX4_pack_24 : decode cX4_pack 24 = .ok (.aload_n 1, 1) := by decide +kernel
theorem dX4_pack_25 : decode cX4_pack 25 = .ok (.invokevirtual 64, 3) := by decide +kernel
theorem dX4_pack_28 : decode cX4_pack 28 = .ok (.if_icmp .ge 45, 3) := by decide +kernel
theorem dX4_pack_31 : decode cX4_pack 31 = .ok (.iload_n 2, 1) := by decide +kernel
theorem dX4_pack_32 : decode cX4_pack 32 = .ok (.sipush 128, 3) := by decide +kernel
theorem dX4_pack_35 : decode cX4_pack 35 = .ok (.if_icmp .ge 38, 3) := by decide +kernel
theorem dX4_pack_38 : decode cX4_pack 38 = .ok (.aload_n 1, 1) := by decide +kernel
theorem dX4_pack_39 : decode cX4_pack 39 = .ok (.iload_n 2, 1) := by decide +kernel
theorem dX4_pack_40 : decode cX4_pack 40 = .ok (.invokevirtual 67, 3) := by decide +kernel
theorem dX4_pack_43 : decode cX4_pack 43 = .ok (.iconst 1, 1) := by decide +kernel
theorem dX4_pack_44 : decode cX4_pack 44 = .ok (.iadd, 1) := by decide +kernel
theorem dX4_pack_45 : decode cX4_pack 45 = .ok (.i2l, 1) := by decide +kernel
theorem dX4_pack_46 : decode cX4_pack 46 = .ok (.lstore_n 3, 1) := by decide +kernel
theorem dX4_pack_47 : decode cX4_pack 47 = .ok (.aload_n 0, 1) := by decide +kernel
theorem dX4_pack_48 : decode cX4_pack 48 = .ok (.getfield 15, 3) := by decide +kernel
theorem dX4_pack_51 : decode cX4_pack 51 = .ok (.iload_n 2, 1) := by decide +kernel
theorem dX4_pack_52 : decode cX4_pack 52 = .ok (.bipush 16, 2) := by decide +kernel
theorem dX4_pack_54 : decode cX4_pack 54 = .ok (.idiv, 1) := by decide +kernel
theorem dX4_pack_55 : decode cX4_pack 55 = .ok (.dup2, 1) := by decide +kernel
theorem dX4_pack_56 : decode cX4_pack 56 = .ok (.laload, 1) := by decide +kernel
theorem dX4_pack_57 : decode cX4_pack 57 = .ok (.lload_n 3, 1) := by decide +kernel
theorem dX4_pack_58 : decode cX4_pack 58 = .ok (.iconst 4, 1) := by decide +kernel
theorem dX4_pack_59 : decode cX4_pack 59 = .ok (.iload_n 2, 1) := by decide +kernel
theorem dX4_pack_60 : decode cX4_pack 60 = .ok (.bipush 16, 2) := by decide +kernel
theorem dX4_pack_62 : decode cX4_pack 62 = .ok (.irem, 1) := by decide +kernel
theorem dX4_pack_63 : decode cX4_pack 63 = .ok (.imul, 1) := by decide +kernel
theorem dX4_pack_64 : decode cX4_pack 64 = .ok (.lshl, 1) := by decide +kernel
theorem dX4_pack_65 : decode cX4_pack 65 = .ok (.lor, 1) := by decide +kernel
theorem dX4_pack_66 : decode cX4_pack 66 = .ok (.lastore, 1) := by decide +kernel
theorem dX4_pack_67 : decode cX4_pack 67 = .ok (.iinc 2 1, 3) := by decide +kernel
theorem dX4_pack_70 : decode cX4_pack 70 = .ok (.goto (-47), 3) := by decide +kernel
theorem dX4_pack_73 : decode cX4_pack 73 = .ok (.return_, 1) := by decide +kernel
theorem dX4_unpack_0 : decode cX4_unpack 0 = .ok (.aload_n 0, 1) := by decide +kernel
theorem dX4_unpack_1 : decode cX4_unpack 1 = .ok (.getfield 23, 3) := by decide +kernel
theorem dX4_unpack_4 : decode cX4_unpack 4 = .ok (.invokevirtual 71, 3) := by decide +kernel
theorem dX4_unpack_7 : decode cX4_unpack 7 = .ok (.iload_n 1, 1) := by decide +kernel
theorem dX4_unpack_8 : decode cX4_unpack 8 = .ok (.ifCond .lt 9, 3) := by decide +kernel
theorem dX4_unpack_11 : decode cX4_unpack 11 = .ok (.iload_n 1, 1) := by decide +kernel
theorem dX4_unpack_12 : decode cX4_unpack 12 = .ok (.bipush 40, 2) := by decide +kernel
theorem dX4_unpack_14 : decode cX4_unpack 14 = .ok (.if_icmp .le 4, 3) := by decide +kernel
theorem dX4_unpack_17 : decode cX4_unpack 17 = .ok (.return_, 1) := by decide +kernel
theorem dX4_unpack_18 : decode cX4_unpack 18 = .ok (.iconst 0, 1) := by decide +kernel
theorem dX4_unpack_19 : decode cX4_unpack 19 = .ok (.istore_n 2, 1) := by decide +kernel
theorem dX4_unpack_20 : decode cX4_unpack 20 = .ok (.iload_n 2, 1) := by decide +kernel
theorem dX4_unpack_21 : decode cX4_unpack 21 = .ok (.sipush 128, 3) := by decide +kernel
theorem dX4_unpack_24 : decode cX4_unpack 24 = .ok (.if_icmp .ge 57, 3) := by decide +kernel
theorem dX4_unpack_27 : decode cX4_unpack 27 = .ok (.aload_n 0, 1) := by decide +kernel
theorem dX4_unpack_28 : decode cX4_unpack 28 = .ok (.getfield 9, 3) := by decide +kernel
theorem dX4_unpack_31 : decode cX4_unpack 31 = .ok (.iload_n 1, 1) := by decide +kernel
theorem dX4_unpack_32 : decode cX4_unpack 32 = .ok (.bipush 8, 2) := by decide +kernel
theorem dX4_unpack_34 : decode cX4_unpack 34 = .ok (.imul, 1) := by decide +kernel
theorem dX4_unpack_35 : decode cX4_unpack 35 = .ok (.iload_n 2, 1) := by decide +kernel
theorem dX4_unpack_36 : decode cX4_unpack 36 = .ok (.bipush 16, 2) := by decide +kernel
theorem dX4_unpack_38 : decode cX4_unpack 38 = .ok (.idiv, 1) := by decide +kernel
theorem dX4_unpack_39 : decode cX4_unpack 39 = .ok (.iadd, 1) := by decide +kernel
theorem dX4_unpack_40 : decode cX4_unpack 40 = .ok (.laload, 1) := by decide +kernel
theorem dX4_unpack_41 : decode cX4_unpack 41 = .ok (.lstore_n 3, 1) := by decide +kernel
theorem dX4_unpack_42 : decode cX4_unpack 42 = .ok (.lload_n 3, 1) := by decide +kernel
theorem dX4_unpack_43 : decode cX4_unpack 43 = .ok (.iconst 4, 1) := by decide +kernel
theorem dX4_unpack_44 : decode cX4_unpack 44 = .ok (.iload_n 2, 1) := by decide +kernel
theorem dX4_unpack_45 : decode cX4_unpack 45 = .ok (.bipush 16, 2) := by decide +kernel
theorem dX4_unpack_47 : decode cX4_unpack 47 = .ok (.irem, 1) := by decide +kernel
theorem dX4_unpack_48 : decode cX4_unpack 48 = .ok (.imul, 1) := by decide +kernel
theorem dX4_unpack_49 : decode cX4_unpack 49 = .ok (.lshr, 1) := by decide +kernel
theorem dX4_unpack_50 : decode cX4_unpack 50 = .ok (.ldc2_w 74, 3) := by decide +kernel
theorem dX4_unpack_53 : decode cX4_unpack 53 = .ok (.land, 1) := by decide +kernel
theorem dX4_unpack_54 : decode cX4_unpack 54 = .ok (.l2i, 1) := by decide +kernel
theorem dX4_unpack_55 : decode cX4_unpack 55 = .ok (.iconst 1, 1) := by decide +kernel
theorem dX4_unpack_56 : decode cX4_unpack 56 = .ok (.isub, 1) := by decide +kernel
theorem dX4_unpack_57 : decode cX4_unpack 57 = .ok (.istore 5, 2) := by decide +kernel
theorem dX4_unpack_59 : decode cX4_unpack 59 = .ok (.iload 5, 2) := by decide +kernel
theorem dX4_unpack_61 : decode cX4_unpack 61 = .ok (.iconst (-1), 1) := by decide +kernel
theorem dX4_unpack_62 : decode cX4_unpack 62 = .ok (.if_icmp .ne 4, 3) := by decide +kernel
theorem dX4_unpack_65 : decode cX4_unpack 65 = .ok (.return_, 1) := by decide +kernel
theorem dX4_unpack_66 : decode cX4_unpack 66 = .ok (.aload_n 0, 1) := by decide +kernel
theorem dX4_unpack_67 : decode cX4_unpack 67 = .ok (.getfield 23, 3) := by decide +kernel
theorem dX4_unpack_70 : decode cX4_unpack 70 = .ok (.iload 5, 2) := by decide +kernel
theorem dX4_unpack_72 : decode cX4_unpack 72 = .ok (.invokevirtual 76, 3) := by decide +kernel
theorem dX4_unpack_75 : decode cX4_unpack 75 = .ok (.iinc 2 1, 3) := by decide +kernel
theorem dX4_unpack_78 : decode cX4_unpack 78 = .ok (.goto (-58), 3) := by decide +kernel
theorem dX4_unpack_81 : decode cX4_unpack 81 = .ok (.return_, 1) := by decide +kernel
theorem dX5_init_0 : decode cX5_init 0 = .ok (.aload_n 0, 1) := by decide +kernel
theorem dX5_init_1 : decode cX5_init 1 = .ok (.invokespecial 3, 3) := by decide +kernel
theorem dX5_init_4 : decode cX5_init 4 = .ok (.aload_n 0, 1) := by decide +kernel
theorem dX5_init_5 : decode cX5_init 5 = .ok (.bipush 6, 2) := by decide +kernel
theorem dX5_init_7 : decode cX5_init 7 = .ok (.newarray .int, 2) := by decide +kernel
theorem dX5_init_9 : decode cX5_init 9 = .ok (.putfield 9, 3) := by decide +kernel
theorem dX5_init_12 : decode cX5_init 12 = .ok (.aload_n 0, 1) := by decide +kernel
theorem dX5_init_13 : decode cX5_init 13 = .ok (.iconst 0, 1) := by decide +kernel
theorem dX5_init_14 : decode cX5_init 14 = .ok (.putfield 15, 3) := by decide +kernel
theorem dX5_init_17 : decode cX5_init 17 = .ok (.iconst 0, 1) := by decide +kernel
theorem dX5_init_18 : decode cX5_init 18 = .ok (.istore_n 1, 1) := by decide +kernel
theorem dX5_init_19 : decode cX5_init 19 = .ok (.iload_n 1, 1) := by decide +kernel
theorem dX5_init_20 : decode cX5_init 20 = .ok (.bipush 6, 2) := by decide +kernel
theorem dX5_init_22 : decode cX5_init 22 = .ok (.if_icmp .ge 17, 3) := by decide +kernel
theorem dX5_init_25 : decode cX5_init 25 = .ok (.aload_n 0, 1) := by decide +kernel
theorem dX5_init_26 : decode cX5_init 26 = .ok (.getfield 9, 3) := by decide +kernel
theorem dX5_init_29 : decode cX5_init 29 = .ok (.iload_n 1, 1) := by decide +kernel
theorem dX5_init_30 : decode cX5_init 30 = .ok (.bipush 31, 2) := by decide +kernel
theorem dX5_init_32 : decode cX5_init 32 = .ok (.iastore, 1) := by decide +kernel
theorem dX5_init_33 : decode cX5_init 33 = .ok (.iinc 1 1, 3) := by decide +kernel
theorem dX5_init_36 : decode cX5_init 36 = .ok (.goto (-17), 3) := by decide +kernel
theorem dX5_init_39 : decode cX5_init 39 = .ok (.return_, 1) := by decide +kernel
theorem dX5_size_0 : decode cX5_size 0 = .ok (.aload_n 0, 1) := by decide +kernel
theorem dX5_size_1 : decode cX5_size 1 = .ok (.getfield 15, 3) := by decide +kernel
theorem dX5_size_4 : decode cX5_size 4 = .ok (.ireturn, 1) := by decide +kernel
theorem dX5_sortsOf_0 : decode cX5_sortsOf 0 = .ok (.iload_n 1, 1) := by decide +kernel
theorem dX5_sortsOf_1 : decode cX5_sortsOf 1 = .ok (.ifCond .lt 18, 3) := by decide +kernel
theorem dX5_sortsOf_4 : decode cX5_sortsOf 4 = .ok (.iload_n 1, 1) := by decide +kernel
theorem dX5_sortsOf_5 : decode cX5_sortsOf 5 = .ok (.bipush 6, 2) := by decide +kernel
theorem dX5_sortsOf_7 : decode cX5_sortsOf 7 = .ok (.if_icmp .ge 12, 3) := by decide +kernel
theorem dX5_sortsOf_10 : decode cX5_sortsOf 10 = .ok (.aload_n 0, 1) := by decide +kernel
theorem dX5_sortsOf_11 : decode cX5_sortsOf 11 = .ok (.getfield 9, 3) := by decide +kernel
theorem dX5_sortsOf_14 : decode cX5_sortsOf 14 = .ok (.iload_n 1, 1) := by decide +kernel
theorem dX5_sortsOf_15 : decode cX5_sortsOf 15 = .ok (.iaload, 1) := by decide +kernel
theorem dX5_sortsOf_16 : decode cX5_sortsOf 16 = .ok (.goto 4, 3) := by decide +kernel
theorem dX5_sortsOf_19 : decode cX5_sortsOf 19 = .ok (.iconst 0, 1) := by decide +kernel
theorem dX5_sortsOf_20 : decode cX5_sortsOf 20 = .ok (.ireturn, 1) := by decide +kernel
theorem dX5_add_0 : decode cX5_add 0 = .ok (.iload_n 1, 1) := by decide +kernel
theorem dX5_add_1 : decode cX5_add 1 = .ok (.ifCond .lt 29, 3) := by decide +kernel
theorem dX5_add_4 : decode cX5_add 4 = .ok (.iload_n 1, 1) := by decide +kernel
theorem dX5_add_5 : decode cX5_add 5 = .ok (.bipush 6, 2) := by decide +kernel
theorem dX5_add_7 : decode cX5_add 7 = .ok (.if_icmp .ge 23, 3) := by decide +kernel
theorem dX5_add_10 : decode cX5_add 10 = .ok (.aload_n 0, 1) := by decide +kernel
theorem dX5_add_11 : decode cX5_add 11 = .ok (.getfield 9, 3) := by decide +kernel
theorem dX5_add_14 : decode cX5_add 14 = .ok (.iload_n 1, 1) := by decide +kernel
theorem dX5_add_15 : decode cX5_add 15 = .ok (.dup2, 1) := by decide +kernel
theorem dX5_add_16 : decode cX5_add 16 = .ok (.iaload, 1) := by decide +kernel
theorem dX5_add_17 : decode cX5_add 17 = .ok (.iload_n 2, 1) := by decide +kernel
theorem dX5_add_18 : decode cX5_add 18 = .ok (.iand, 1) := by decide +kernel
theorem dX5_add_19 : decode cX5_add 19 = .ok (.iastore, 1) := by decide +kernel
theorem dX5_add_20 : decode cX5_add 20 = .ok (.aload_n 0, 1) := by decide +kernel
theorem dX5_add_21 : decode cX5_add 21 = .ok (.dup, 1) := by decide +kernel
theorem dX5_add_22 : decode cX5_add 22 = .ok (.getfield 15, 3) := by decide +kernel
theorem dX5_add_25 : decode cX5_add 25 = .ok (.iconst 1, 1) := by decide +kernel
theorem dX5_add_26 : decode cX5_add 26 = .ok (.iadd, 1) := by decide +kernel
theorem dX5_add_27 : decode cX5_add 27 = .ok (.putfield 15, 3) := by decide +kernel
theorem dX5_add_30 : decode cX5_add 30 = .ok (.return_, 1) := by decide +kernel
theorem dX5_clear_0 : decode cX5_clear 0 = .ok (.aload_n 0, 1) := by decide +kernel
theorem dX5_clear_1 : decode cX5_clear 1 = .ok (.iconst 0, 1) := by decide +kernel
theorem dX5_clear_2 : decode cX5_clear 2 = .ok (.putfield 15, 3) := by decide +kernel
theorem dX5_clear_5 : decode cX5_clear 5 = .ok (.iconst 0, 1) := by decide +kernel
theorem dX5_clear_6 : decode cX5_clear 6 = .ok (.istore_n 1, 1) := by decide +kernel
theorem dX5_clear_7 : decode cX5_clear 7 = .ok (.iload_n 1, 1) := by decide +kernel
theorem dX5_clear_8 : decode cX5_clear 8 = .ok (.bipush 6, 2) := by decide +kernel
theorem dX5_clear_10 : decode cX5_clear 10 = .ok (.if_icmp .ge 17, 3) := by decide +kernel
theorem dX5_clear_13 : decode cX5_clear 13 = .ok (.aload_n 0, 1) := by decide +kernel
theorem dX5_clear_14 : decode cX5_clear 14 = .ok (.getfield 9, 3) := by decide +kernel
theorem dX5_clear_17 : decode cX5_clear 17 = .ok (.iload_n 1, 1) := by decide +kernel
theorem dX5_clear_18 : decode cX5_clear 18 = .ok (.bipush 31, 2) := by decide +kernel
theorem dX5_clear_20 : decode cX5_clear 20 = .ok (.iastore, 1) := by decide +kernel
theorem dX5_clear_21 : decode cX5_clear 21 = .ok (.iinc 1 1, 3) := by decide +kernel
theorem dX5_clear_24 : decode cX5_clear 24 = .ok (.goto (-17), 3) := by decide +kernel
theorem dX5_clear_27 : decode cX5_clear 27 = .ok (.return_, 1) := by decide +kernel
theorem dX5_copyFrom_0 : decode cX5_copyFrom 0 = .ok (.aload_n 0, 1) := by decide +kernel
theorem dX5_copyFrom_1 : decode cX5_copyFrom 1 = .ok (.aload_n 1, 1) := by decide +kernel
theorem dX5_copyFrom_2 : decode cX5_copyFrom 2 = .ok (.getfield 15, 3) := by decide +kernel
theorem dX5_copyFrom_5 : decode cX5_copyFrom 5 = .ok (.putfield 15, 3) := by decide +kernel
theorem dX5_copyFrom_8 : decode cX5_copyFrom 8 = .ok (.aload_n 1, 1) := by decide +kernel
theorem dX5_copyFrom_9 : decode cX5_copyFrom 9 = .ok (.getfield 9, 3) := by decide +kernel
theorem dX5_copyFrom_12 : decode cX5_copyFrom 12 = .ok (.iconst 0, 1) := by decide +kernel
theorem dX5_copyFrom_13 : decode cX5_copyFrom 13 = .ok (.aload_n 0, 1) := by decide +kernel
theorem dX5_copyFrom_14 : decode cX5_copyFrom 14 = .ok (.getfield 9, 3) := by decide +kernel
theorem dX5_copyFrom_17 : decode cX5_copyFrom 17 = .ok (.iconst 0, 1) := by decide +kernel
theorem dX5_copyFrom_18 : decode cX5_copyFrom 18 = .ok (.bipush 6, 2) := by decide +kernel
theorem dX5_copyFrom_20 : decode cX5_copyFrom 20 = .ok (.invokestatic 19, 3) := by decide +kernel
theorem dX5_copyFrom_23 : decode cX5_copyFrom 23 = .ok (.return_, 1) := by decide +kernel
theorem dJ6_bitCount_0f7a4_0 : decode cJ6_bitCount_0f7a4 0 = .ok (.iload_n 0, 1) := by decide +kernel
theorem dJ6_bitCount_0f7a4_1 : decode cJ6_bitCount_0f7a4 1 = .ok (.iload_n 0, 1) := by decide +kernel
theorem dJ6_bitCount_0f7a4_2 : decode cJ6_bitCount_0f7a4 2 = .ok (.iconst 1, 1) := by decide +kernel
theorem dJ6_bitCount_0f7a4_3 : decode cJ6_bitCount_0f7a4 3 = .ok (.iushr, 1) := by decide +kernel
theorem dJ6_bitCount_0f7a4_4 : decode cJ6_bitCount_0f7a4 4 = .ok (.ldc_w 265, 3) := by decide +kernel
theorem dJ6_bitCount_0f7a4_7 : decode cJ6_bitCount_0f7a4 7 = .ok (.iand, 1) := by decide +kernel
theorem dJ6_bitCount_0f7a4_8 : decode cJ6_bitCount_0f7a4 8 = .ok (.isub, 1) := by decide +kernel
theorem dJ6_bitCount_0f7a4_9 : decode cJ6_bitCount_0f7a4 9 = .ok (.istore_n 0, 1) := by decide +kernel
theorem dJ6_bitCount_0f7a4_10 : decode cJ6_bitCount_0f7a4 10 = .ok (.iload_n 0, 1) := by decide +kernel
theorem dJ6_bitCount_0f7a4_11 : decode cJ6_bitCount_0f7a4 11 = .ok (.ldc_w 266, 3) := by decide +kernel
theorem dJ6_bitCount_0f7a4_14 : decode cJ6_bitCount_0f7a4 14 = .ok (.iand, 1) := by decide +kernel
theorem dJ6_bitCount_0f7a4_15 : decode cJ6_bitCount_0f7a4 15 = .ok (.iload_n 0, 1) := by decide +kernel
theorem dJ6_bitCount_0f7a4_16 : decode cJ6_bitCount_0f7a4 16 = .ok (.iconst 2, 1) := by decide +kernel
theorem dJ6_bitCount_0f7a4_17 : decode cJ6_bitCount_0f7a4 17 = .ok (.iushr, 1) := by decide +kernel
theorem dJ6_bitCount_0f7a4_18 : decode cJ6_bitCount_0f7a4 18 = .ok (.ldc_w 266, 3) := by decide +kernel
theorem dJ6_bitCount_0f7a4_21 : decode cJ6_bitCount_0f7a4 21 = .ok (.iand, 1) := by decide +kernel
theorem dJ6_bitCount_0f7a4_22 : decode cJ6_bitCount_0f7a4 22 = .ok (.iadd, 1) := by decide +kernel
theorem dJ6_bitCount_0f7a4_23 : decode cJ6_bitCount_0f7a4 23 = .ok (.istore_n 0, 1) := by decide +kernel
theorem dJ6_bitCount_0f7a4_24 : decode cJ6_bitCount_0f7a4 24 = .ok (.iload_n 0, 1) := by decide +kernel
theorem dJ6_bitCount_0f7a4_25 : decode cJ6_bitCount_0f7a4 25 = .ok (.iload_n 0, 1) := by decide +kernel
theorem dJ6_bitCount_0f7a4_26 : decode cJ6_bitCount_0f7a4 26 = .ok (.iconst 4, 1) := by decide +kernel
theorem dJ6_bitCount_0f7a4_27 : decode cJ6_bitCount_0f7a4 27 = .ok (.iushr, 1) := by decide +kernel
theorem dJ6_bitCount_0f7a4_28 : decode cJ6_bitCount_0f7a4 28 = .ok (.iadd, 1) := by decide +kernel
theorem dJ6_bitCount_0f7a4_29 : decode cJ6_bitCount_0f7a4 29 = .ok (.ldc_w 267, 3) := by decide +kernel
theorem dJ6_bitCount_0f7a4_32 : decode cJ6_bitCount_0f7a4 32 = .ok (.iand, 1) := by decide +kernel
theorem dJ6_bitCount_0f7a4_33 : decode cJ6_bitCount_0f7a4 33 = .ok (.istore_n 0, 1) := by decide +kernel
theorem dJ6_bitCount_0f7a4_34 : decode cJ6_bitCount_0f7a4 34 = .ok (.iload_n 0, 1) := by decide +kernel
theorem dJ6_bitCount_0f7a4_35 : decode cJ6_bitCount_0f7a4 35 = .ok (.iload_n 0, 1) := by decide +kernel
theorem dJ6_bitCount_0f7a4_36 : decode cJ6_bitCount_0f7a4 36 = .ok (.bipush 8, 2) := by decide +kernel
theorem dJ6_bitCount_0f7a4_38 : decode cJ6_bitCount_0f7a4 38 = .ok (.iushr, 1) := by decide +kernel
theorem dJ6_bitCount_0f7a4_39 : decode cJ6_bitCount_0f7a4 39 = .ok (.iadd, 1) := by decide +kernel
theorem dJ6_bitCount_0f7a4_40 : decode cJ6_bitCount_0f7a4 40 = .ok (.istore_n 0, 1) := by decide +kernel
theorem dJ6_bitCount_0f7a4_41 : decode cJ6_bitCount_0f7a4 41 = .ok (.iload_n 0, 1) := by decide +kernel
theorem dJ6_bitCount_0f7a4_42 : decode cJ6_bitCount_0f7a4 42 = .ok (.iload_n 0, 1) := by decide +kernel
theorem dJ6_bitCount_0f7a4_43 : decode cJ6_bitCount_0f7a4 43 = .ok (.bipush 16, 2) := by decide +kernel
theorem dJ6_bitCount_0f7a4_45 : decode cJ6_bitCount_0f7a4 45 = .ok (.iushr, 1) := by decide +kernel
theorem dJ6_bitCount_0f7a4_46 : decode cJ6_bitCount_0f7a4 46 = .ok (.iadd, 1) := by decide +kernel
theorem dJ6_bitCount_0f7a4_47 : decode cJ6_bitCount_0f7a4 47 = .ok (.istore_n 0, 1) := by decide +kernel
theorem dJ6_bitCount_0f7a4_48 : decode cJ6_bitCount_0f7a4 48 = .ok (.iload_n 0, 1) := by decide +kernel
theorem dJ6_bitCount_0f7a4_49 : decode cJ6_bitCount_0f7a4 49 = .ok (.bipush 63, 2) := by decide +kernel
theorem dJ6_bitCount_0f7a4_51 : decode cJ6_bitCount_0f7a4 51 = .ok (.iand, 1) := by decide +kernel
theorem dJ6_bitCount_0f7a4_52 : decode cJ6_bitCount_0f7a4 52 = .ok (.ireturn, 1) := by decide +kernel
theorem dJ9_max_7cf53_0 : decode cJ9_max_7cf53 0 = .ok (.iload_n 0, 1) := by decide +kernel
theorem dJ9_max_7cf53_1 : decode cJ9_max_7cf53 1 = .ok (.iload_n 1, 1) := by decide +kernel
theorem dJ9_max_7cf53_2 : decode cJ9_max_7cf53 2 = .ok (.if_icmp .lt 7, 3) := by decide +kernel
theorem dJ9_max_7cf53_5 : decode cJ9_max_7cf53 5 = .ok (.iload_n 0, 1) := by decide +kernel
theorem dJ9_max_7cf53_6 : decode cJ9_max_7cf53 6 = .ok (.goto 4, 3) := by decide +kernel
theorem dJ9_max_7cf53_9 : decode cJ9_max_7cf53 9 = .ok (.iload_n 1, 1) := by decide +kernel
theorem dJ9_max_7cf53_10 : decode cJ9_max_7cf53 10 = .ok (.ireturn, 1) := by decide +kernel
theorem dJ9_min_7cf53_0 : decode cJ9_min_7cf53 0 = .ok (.iload_n 0, 1) := by decide +kernel
theorem dJ9_min_7cf53_1 : decode cJ9_min_7cf53 1 = .ok (.iload_n 1, 1) := by decide +kernel
theorem dJ9_min_7cf53_2 : decode cJ9_min_7cf53 2 = .ok (.if_icmp .gt 7, 3) := by decide +kernel
theorem dJ9_min_7cf53_5 : decode cJ9_min_7cf53 5 = .ok (.iload_n 0, 1) := by decide +kernel
theorem dJ9_min_7cf53_6 : decode cJ9_min_7cf53 6 = .ok (.goto 4, 3) := by decide +kernel
theorem dJ9_min_7cf53_9 : decode cJ9_min_7cf53 9 = .ok (.iload_n 1, 1) := by decide +kernel
theorem dJ9_min_7cf53_10 : decode cJ9_min_7cf53 10 = .ok (.ireturn, 1) := by decide +kernel
theorem dJ0_length_8abf5_0 : decode cJ0_length_8abf5 0 = .ok (.aload_n 0, 1) := by decide +kernel
theorem dJ0_length_8abf5_1 : decode cJ0_length_8abf5 1 = .ok (.getfield 9, 3) := by decide +kernel
theorem dJ0_length_8abf5_4 : decode cJ0_length_8abf5 4 = .ok (.arraylength, 1) := by decide +kernel
theorem dJ0_length_8abf5_5 : decode cJ0_length_8abf5 5 = .ok (.aload_n 0, 1) := by decide +kernel
theorem dJ0_length_8abf5_6 : decode cJ0_length_8abf5 6 = .ok (.invokevirtual 335, 3) := by decide +kernel
theorem dJ0_length_8abf5_9 : decode cJ0_length_8abf5 9 = .ok (.ishr, 1) := by decide +kernel
theorem dJ0_length_8abf5_10 : decode cJ0_length_8abf5 10 = .ok (.ireturn, 1) := by decide +kernel
theorem dJ0_charAt_5068e_0 : decode cJ0_charAt_5068e 0 = .ok (.aload_n 0, 1) := by decide +kernel
theorem dJ0_charAt_5068e_1 : decode cJ0_charAt_5068e 1 = .ok (.invokevirtual 492, 3) := by decide +kernel
theorem dJ0_charAt_5068e_4 : decode cJ0_charAt_5068e 4 = .ok (.ifCond .eq 12, 3) := by decide +kernel
theorem dJ0_charAt_5068e_7 : decode cJ0_charAt_5068e 7 = .ok (.aload_n 0, 1) := by decide +kernel
theorem dJ0_charAt_5068e_8 : decode cJ0_charAt_5068e 8 = .ok (.getfield 9, 3) := by decide +kernel
theorem dJ0_charAt_5068e_11 : decode cJ0_charAt_5068e 11 = .ok (.iload_n 1, 1) := by decide +kernel
theorem dJ0_charAt_5068e_12 : decode cJ0_charAt_5068e 12 = .ok (.invokestatic 495, 3) := by decide +kernel
theorem dJ0_charAt_5068e_15 : decode cJ0_charAt_5068e 15 = .ok (.ireturn, 1) := by decide +kernel
theorem dJ0_charAt_5068e_16 : decode cJ0_charAt_5068e 16 = .ok (.aload_n 0, 1) := by decide +kernel
theorem dJ0_charAt_5068e_17 : decode cJ0_charAt_5068e 17 = .ok (.getfield 9, 3) := by decide +kernel
theorem dJ0_charAt_5068e_20 : decode cJ0_charAt_5068e 20 = .ok (.iload_n 1, 1) := by decide +kernel
theorem dJ0_charAt_5068e_21 : decode cJ0_charAt_5068e 21 = .ok (.invokestatic 498, 3) := by decide +kernel
theorem dJ0_charAt_5068e_24 : decode cJ0_charAt_5068e 24 = .ok (.ireturn, 1) := by decide +kernel
theorem dJ0_coder_7d493_0 : decode cJ0_coder_7d493 0 = .ok (.getstatic 38, 3) := by decide +kernel
theorem dJ0_coder_7d493_3 : decode cJ0_coder_7d493 3 = .ok (.ifCond .eq 10, 3) := by decide +kernel
theorem dJ0_coder_7d493_6 : decode cJ0_coder_7d493 6 = .ok (.aload_n 0, 1) := by decide +kernel
theorem dJ0_coder_7d493_7 : decode cJ0_coder_7d493 7 = .ok (.getfield 15, 3) := by decide +kernel
theorem dJ0_coder_7d493_10 : decode cJ0_coder_7d493 10 = .ok (.goto 4, 3) := by decide +kernel
theorem dJ0_coder_7d493_13 : decode cJ0_coder_7d493 13 = .ok (.iconst 1, 1) := by decide +kernel
theorem dJ0_coder_7d493_14 : decode cJ0_coder_7d493 14 = .ok (.ireturn, 1) := by decide +kernel
theorem dJ0_isLatin1_aae02_0 : decode cJ0_isLatin1_aae02 0 = .ok (.getstatic 38, 3) := by decide +kernel
theorem dJ0_isLatin1_aae02_3 : decode cJ0_isLatin1_aae02 3 = .ok (.ifCond .eq 14, 3) := by decide +kernel
theorem dJ0_isLatin1_aae02_6 : decode cJ0_isLatin1_aae02 6 = .ok (.aload_n 0, 1) := by decide +kernel
theorem dJ0_isLatin1_aae02_7 : decode cJ0_isLatin1_aae02 7 = .ok (.getfield 15, 3) := by decide +kernel
theorem dJ0_isLatin1_aae02_10 : decode cJ0_isLatin1_aae02 10 = .ok (.ifCond .ne 7, 3) := by decide +kernel
theorem dJ0_isLatin1_aae02_13 : decode cJ0_isLatin1_aae02 13 = .ok (.iconst 1, 1) := by decide +kernel
theorem dJ0_isLatin1_aae02_14 : decode cJ0_isLatin1_aae02 14 = .ok (.goto 4, 3) := by decide +kernel
theorem dJ0_isLatin1_aae02_17 : decode cJ0_isLatin1_aae02 17 = .ok (.iconst 0, 1) := by decide +kernel
theorem dJ0_isLatin1_aae02_18 : decode cJ0_isLatin1_aae02 18 = .ok (.ireturn, 1) := by decide +kernel
theorem dJ0_checkIndex_df160_0 : decode cJ0_checkIndex_df160 0 = .ok (.iload_n 0, 1) := by decide +kernel
theorem dJ0_checkIndex_df160_1 : decode cJ0_checkIndex_df160 1 = .ok (.iload_n 1, 1) := by decide +kernel
theorem dJ0_checkIndex_df160_2 : decode cJ0_checkIndex_df160 2 = .ok (.getstatic 1053, 3) := by decide +kernel
theorem dJ0_checkIndex_df160_5 : decode cJ0_checkIndex_df160 5 = .ok (.invokestatic 1059, 3) := by decide +kernel
theorem dJ0_checkIndex_df160_8 : decode cJ0_checkIndex_df160 8 = .ok (.pop, 1) := by decide +kernel
theorem dJ0_checkIndex_df160_9 : decode cJ0_checkIndex_df160 9 = .ok (.return_, 1) := by decide +kernel
theorem dJ1_charAt_3b067_0 : decode cJ1_charAt_3b067 0 = .ok (.iload_n 1, 1) := by decide +kernel
theorem dJ1_charAt_3b067_1 : decode cJ1_charAt_3b067 1 = .ok (.aload_n 0, 1) := by decide +kernel
theorem dJ1_charAt_3b067_2 : decode cJ1_charAt_3b067 2 = .ok (.arraylength, 1) := by decide +kernel
theorem dJ1_charAt_3b067_3 : decode cJ1_charAt_3b067 3 = .ok (.invokestatic 9, 3) := by decide +kernel
theorem dJ1_charAt_3b067_6 : decode cJ1_charAt_3b067 6 = .ok (.aload_n 0, 1) := by decide +kernel
theorem dJ1_charAt_3b067_7 : decode cJ1_charAt_3b067 7 = .ok (.iload_n 1, 1) := by decide +kernel
theorem dJ1_charAt_3b067_8 : decode cJ1_charAt_3b067 8 = .ok (.baload, 1) := by decide +kernel
theorem dJ1_charAt_3b067_9 : decode cJ1_charAt_3b067 9 = .ok (.sipush 255, 3) := by decide +kernel
theorem dJ1_charAt_3b067_12 : decode cJ1_charAt_3b067 12 = .ok (.iand, 1) := by decide +kernel
theorem dJ1_charAt_3b067_13 : decode cJ1_charAt_3b067 13 = .ok (.i2c, 1) := by decide +kernel
theorem dJ1_charAt_3b067_14 : decode cJ1_charAt_3b067 14 = .ok (.ireturn, 1) := by decide +kernel
theorem dJ2_getChar_3b067_0 : decode cJ2_getChar_3b067 0 = .ok (.getstatic 44, 3) := by decide +kernel
theorem dJ2_getChar_3b067_3 : decode cJ2_getChar_3b067 3 = .ok (.ifCond .ne 25, 3) := by decide +kernel
theorem dJ2_getChar_3b067_6 : decode cJ2_getChar_3b067 6 = .ok (.iload_n 1, 1) := by decide +kernel
theorem dJ2_getChar_3b067_7 : decode cJ2_getChar_3b067 7 = .ok (.ifCond .lt 11, 3) := by decide +kernel
theorem dJ2_getChar_3b067_10 : decode cJ2_getChar_3b067 10 = .ok (.iload_n 1, 1) := by decide +kernel
theorem dJ2_getChar_3b067_11 : decode cJ2_getChar_3b067 11 = .ok (.aload_n 0, 1) := by decide +kernel
theorem dJ2_getChar_3b067_12 : decode cJ2_getChar_3b067 12 = .ok (.invokestatic 48, 3) := by decide +kernel
theorem dJ2_getChar_3b067_15 : decode cJ2_getChar_3b067 15 = .ok (.if_icmp .lt 13, 3) := by decide +kernel
theorem dJ2_getChar_3b067_18 : decode cJ2_getChar_3b067 18 = .ok (.new 52, 3) := by decide +kernel
theorem dJ2_getChar_3b067_21 : decode cJ2_getChar_3b067 21 = .ok (.dup, 1) := by decide +kernel
theorem dJ2_getChar_3b067_22 : decode cJ2_getChar_3b067 22 = .ok (.ldc 54, 2) := by decide +kernel
theorem dJ2_getChar_3b067_24 : decode cJ2_getChar_3b067 24 = .ok (.invokespecial 56, 3) := by decide +kernel
theorem dJ2_getChar_3b067_27 : decode cJ2_getChar_3b067 27 = .ok (.athrow, 1) := by decide +kernel
theorem dJ2_getChar_3b067_28 : decode cJ2_getChar_3b067 28 = .ok (.iload_n 1, 1) := by decide +kernel
theorem dJ2_getChar_3b067_29 : decode cJ2_getChar_3b067 29 = .ok (.iconst 1, 1) := by decide +kernel
theorem dJ2_getChar_3b067_30 : decode cJ2_getChar_3b067 30 = .ok (.ishl, 1) := by decide +kernel
theorem dJ2_getChar_3b067_31 : decode cJ2_getChar_3b067 31 = .ok (.istore_n 1, 1) := by decide +kernel
theorem dJ2_getChar_3b067_32 : decode cJ2_getChar_3b067 32 = .ok (.aload_n 0, 1) := by decide +kernel
theorem dJ2_getChar_3b067_33 : decode cJ2_getChar_3b067 33 = .ok (.iload_n 1, 1) := by decide +kernel
theorem dJ2_getChar_3b067_34 : decode cJ2_getChar_3b067 34 = .ok (.iinc 1 1, 3) := by decide +kernel
theorem dJ2_getChar_3b067_37 : decode cJ2_getChar_3b067 37 = .ok (.baload, 1) := by decide +kernel
theorem dJ2_getChar_3b067_38 : decode cJ2_getChar_3b067 38 = .ok (.sipush 255, 3) := by decide +kernel
theorem dJ2_getChar_3b067_41 : decode cJ2_getChar_3b067 41 = .ok (.iand, 1) := by decide +kernel
theorem dJ2_getChar_3b067_42 : decode cJ2_getChar_3b067 42 = .ok (.getstatic 59, 3) := by decide +kernel
theorem dJ2_getChar_3b067_45 : decode cJ2_getChar_3b067 45 = .ok (.ishl, 1) := by decide +kernel
theorem dJ2_getChar_3b067_46 : decode cJ2_getChar_3b067 46 = .ok (.aload_n 0, 1) := by decide +kernel
theorem dJ2_getChar_3b067_47 : decode cJ2_getChar_3b067 47 = .ok (.iload_n 1, 1) := by decide +kernel
theorem dJ2_getChar_3b067_48 : decode cJ2_getChar_3b067 48 = .ok (.baload, 1) := by decide +kernel
theorem dJ2_getChar_3b067_49 : decode cJ2_getChar_3b067 49 = .ok (.sipush 255, 3) := by decide +kernel
theorem dJ2_getChar_3b067_52 : decode cJ2_getChar_3b067 52 = .ok (.iand, 1) := by decide +kernel
theorem dJ2_getChar_3b067_53 : decode cJ2_getChar_3b067 53 = .ok (.getstatic 63, 3) := by decide +kernel
theorem dJ2_getChar_3b067_56 : decode cJ2_getChar_3b067 56 = .ok (.ishl, 1) := by decide +kernel
theorem dJ2_getChar_3b067_57 : decode cJ2_getChar_3b067 57 = .ok (.ior, 1) := by decide +kernel
theorem dJ2_getChar_3b067_58 : decode cJ2_getChar_3b067 58 = .ok (.i2c, 1) := by decide +kernel
theorem dJ2_getChar_3b067_59 : decode cJ2_getChar_3b067 59 = .ok (.ireturn, 1) := by decide +kernel
theorem dJ2_length_9d52b_0 : decode cJ2_length_9d52b 0 = .ok (.aload_n 0, 1) := by decide +kernel
theorem dJ2_length_9d52b_1 : decode cJ2_length_9d52b 1 = .ok (.arraylength, 1) := by decide +kernel
theorem dJ2_length_9d52b_2 : decode cJ2_length_9d52b 2 = .ok (.iconst 1, 1) := by decide +kernel
theorem dJ2_length_9d52b_3 : decode cJ2_length_9d52b 3 = .ok (.ishr, 1) := by decide +kernel
theorem dJ2_length_9d52b_4 : decode cJ2_length_9d52b 4 = .ok (.ireturn, 1) := by decide +kernel
theorem dJ2_charAt_3b067_0 : decode cJ2_charAt_3b067 0 = .ok (.iload_n 1, 1) := by decide +kernel
theorem dJ2_charAt_3b067_1 : decode cJ2_charAt_3b067 1 = .ok (.aload_n 0, 1) := by decide +kernel
theorem dJ2_charAt_3b067_2 : decode cJ2_charAt_3b067 2 = .ok (.invokestatic 67, 3) := by decide +kernel
theorem dJ2_charAt_3b067_5 : decode cJ2_charAt_3b067 5 = .ok (.aload_n 0, 1) := by decide +kernel
theorem dJ2_charAt_3b067_6 : decode cJ2_charAt_3b067 6 = .ok (.iload_n 1, 1) := by decide +kernel
theorem dJ2_charAt_3b067_7 : decode cJ2_charAt_3b067 7 = .ok (.invokestatic 71, 3) := by decide +kernel
theorem dJ2_charAt_3b067_10 : decode cJ2_charAt_3b067 10 = .ok (.ireturn, 1) := by decide +kernel
theorem dJ2_checkIndex_2214a_0 : decode cJ2_checkIndex_2214a 0 = .ok (.iload_n 0, 1) := by decide +kernel
theorem dJ2_checkIndex_2214a_1 : decode cJ2_checkIndex_2214a 1 = .ok (.aload_n 1, 1) := by decide +kernel
theorem dJ2_checkIndex_2214a_2 : decode cJ2_checkIndex_2214a 2 = .ok (.invokestatic 48, 3) := by decide +kernel
theorem dJ2_checkIndex_2214a_5 : decode cJ2_checkIndex_2214a 5 = .ok (.invokestatic 414, 3) := by decide +kernel
theorem dJ2_checkIndex_2214a_8 : decode cJ2_checkIndex_2214a 8 = .ok (.return_, 1) := by decide +kernel
theorem dJ3_checkIndex_8e157_0 : decode cJ3_checkIndex_8e157 0 = .ok (.iload_n 0, 1) := by decide +kernel
theorem dJ3_checkIndex_8e157_1 : decode cJ3_checkIndex_8e157 1 = .ok (.ifCond .lt 8, 3) := by decide +kernel
theorem dJ3_checkIndex_8e157_4 : decode cJ3_checkIndex_8e157 4 = .ok (.iload_n 0, 1) := by decide +kernel
theorem dJ3_checkIndex_8e157_5 : decode cJ3_checkIndex_8e157 5 = .ok (.iload_n 1, 1) := by decide +kernel
theorem dJ3_checkIndex_8e157_6 : decode cJ3_checkIndex_8e157 6 = .ok (.if_icmp .lt 10, 3) := by decide +kernel
theorem dJ3_checkIndex_8e157_9 : decode cJ3_checkIndex_8e157 9 = .ok (.aload_n 2, 1) := by decide +kernel
theorem dJ3_checkIndex_8e157_10 : decode cJ3_checkIndex_8e157 10 = .ok (.iload_n 0, 1) := by decide +kernel
theorem dJ3_checkIndex_8e157_11 : decode cJ3_checkIndex_8e157 11 = .ok (.iload_n 1, 1) := by decide +kernel
theorem dJ3_checkIndex_8e157_12 : decode cJ3_checkIndex_8e157 12 = .ok (.invokestatic 95, 3) := by decide +kernel
theorem dJ3_checkIndex_8e157_15 : decode cJ3_checkIndex_8e157 15 = .ok (.athrow, 1) := by decide +kernel
theorem dJ3_checkIndex_8e157_16 : decode cJ3_checkIndex_8e157 16 = .ok (.iload_n 0, 1) := by decide +kernel
theorem dJ3_checkIndex_8e157_17 : decode cJ3_checkIndex_8e157 17 = .ok (.ireturn, 1) := by decide +kernel
end
section
theorem dX3_init_0 : decode cX3_init 0 = .ok (.aload_n 0, 1) := by decide +kernel
theorem dX3_init_1 : decode cX3_init 1 = .ok (.invokespecial 3, 3) := by decide +kernel
theorem dX3_init_4 : decode cX3_init 4 = .ok (.aload_n 0, 1) := by decide +kernel
theorem dX3_init_5 : decode cX3_init 5 = .ok (.bipush 6, 2) := by decide +kernel
theorem dX3_init_7 : decode cX3_init 7 = .ok (.newarray .int, 2) := by decide +kernel
theorem dX3_init_9 : decode cX3_init 9 = .ok (.putfield 9, 3) := by decide +kernel
theorem dX3_init_12 : decode cX3_init 12 = .ok (.aload_n 0, 1) := by decide +kernel
theorem dX3_init_13 : decode cX3_init 13 = .ok (.bipush 12, 2) := by decide +kernel
theorem dX3_init_15 : decode cX3_init 15 = .ok (.newarray .int, 2) := by decide +kernel
theorem dX3_init_17 : decode cX3_init 17 = .ok (.putfield 15, 3) := by decide +kernel
theorem dX3_init_20 : decode cX3_init 20 = .ok (.aload_n 0, 1) := by decide +kernel
theorem dX3_init_21 : decode cX3_init 21 = .ok (.bipush 7, 2) := by decide +kernel
theorem dX3_init_23 : decode cX3_init 23 = .ok (.newarray .int, 2) := by decide +kernel
theorem dX3_init_25 : decode cX3_init 25 = .ok (.putfield 18, 3) := by decide +kernel
theorem dX3_init_28 : decode cX3_init 28 = .ok (.aload_n 0, 1) := by decide +kernel
theorem dX3_init_29 : decode cX3_init 29 = .ok (.bipush 7, 2) := by decide +kernel
theorem dX3_init_31 : decode cX3_init 31 = .ok (.newarray .int, 2) := by decide +kernel
theorem dX3_init_33 : decode cX3_init 33 = .ok (.putfield 21, 3) := by decide +kernel
theorem dX3_init_36 : decode cX3_init 36 = .ok (.aload_n 0, 1) := by decide +kernel
theorem dX3_init_37 : decode cX3_init 37 = .ok (.iconst 0, 1) := by decide +kernel
theorem dX3_init_38 : decode cX3_init 38 = .ok (.putfield 24, 3) := by decide +kernel
theorem dX3_init_41 : decode cX3_init 41 = .ok (.return_, 1) := by decide +kernel
theorem dX3_size_0 : decode cX3_size 0 = .ok (.aload_n 0, 1) := by decide +kernel
theorem dX3_size_1 : decode cX3_size 1 = .ok (.getfield 24, 3) := by decide +kernel
theorem dX3_size_4 : decode cX3_size 4 = .ok (.ireturn, 1) := by decide +kernel
theorem dX3_has_0 : decode cX3_has 0 = .ok (.iload_n 1, 1) := by decide +kernel
theorem dX3_has_1 : decode cX3_has 1 = .ok (.ifCond .lt 15, 3) := by decide +kernel
theorem dX3_has_4 : decode cX3_has 4 = .ok (.iload_n 1, 1) := by decide +kernel
theorem dX3_has_5 : decode cX3_has 5 = .ok (.aload_n 0, 1) := by decide +kernel
theorem dX3_has_6 : decode cX3_has 6 = .ok (.getfield 24, 3) := by decide +kernel
theorem dX3_has_9 : decode cX3_has 9 = .ok (.if_icmp .ge 7, 3) := by decide +kernel
theorem dX3_has_12 : decode cX3_has 12 = .ok (.iconst 1, 1) := by decide +kernel
theorem dX3_has_13 : decode cX3_has 13 = .ok (.goto 4, 3) := by decide +kernel
theorem dX3_has_16 : decode cX3_has 16 = .ok (.iconst 0, 1) := by decide +kernel
theorem dX3_has_17 : decode cX3_has 17 = .ok (.ireturn, 1) := by decide +kernel
theorem dX3_readFrom_0 : decode cX3_readFrom 0 = .ok (.aload_n 0, 1) := by decide +kernel
theorem dX3_readFrom_1 : decode cX3_readFrom 1 = .ok (.aload_n 1, 1) := by decide +kernel
theorem dX3_readFrom_2 : decode cX3_readFrom 2 = .ok (.invokevirtual 28, 3) := by decide +kernel
theorem dX3_readFrom_5 : decode cX3_readFrom 5 = .ok (.bipush 6, 2) := by decide +kernel
theorem dX3_readFrom_7 : decode cX3_readFrom 7 = .ok (.invokestatic 34, 3) := by decide +kernel
theorem dX3_readFrom_10 : decode cX3_readFrom 10 = .ok (.putfield 24, 3) := by decide +kernel
theorem dX3_readFrom_13 : decode cX3_readFrom 13 = .ok (.iconst 0, 1) := by decide +kernel
theorem dX3_readFrom_14 : decode cX3_readFrom 14 = .ok (.istore_n 2, 1) := by decide +kernel
theorem dX3_readFrom_15 : decode cX3_readFrom 15 = .ok (.iload_n 2, 1) := by decide +kernel
theorem dX3_readFrom_16 : decode cX3_readFrom 16 = .ok (.aload_n 0, 1) := by decide +kernel
theorem dX3_readFrom_17 : decode cX3_readFrom 17 = .ok (.getfield 24, 3) := by decide +kernel
theorem dX3_readFrom_20 : decode cX3_readFrom 20 = .ok (.if_icmp .ge 43, 3) := by decide +kernel
theorem dX3_readFrom_23 : decode cX3_readFrom 23 = .ok (.aload_n 0, 1) := by decide +kernel
theorem dX3_readFrom_24 : decode cX3_readFrom 24 = .ok (.iload_n 2, 1) := by decide +kernel
theorem dX3_readFrom_25 : decode cX3_readFrom 25 = .ok (.aload_n 1, 1) := by decide +kernel
theorem dX3_readFrom_26 : decode cX3_readFrom 26 = .ok (.iload_n 2, 1) := by decide +kernel
theorem dX3_readFrom_27 : decode cX3_readFrom 27 = .ok (.invokevirtual 40, 3) := by decide +kernel
theorem dX3_readFrom_30 : decode cX3_readFrom 30 = .ok (.invokevirtual 44, 3) := by decide +kernel
theorem dX3_readFrom_33 : decode cX3_readFrom 33 = .ok (.aload_n 0, 1) := by decide +kernel
theorem dX3_readFrom_34 : decode cX3_readFrom 34 = .ok (.iload_n 2, 1) := by decide +kernel
theorem dX3_readFrom_35 : decode cX3_readFrom 35 = .ok (.iconst 0, 1) := by decide +kernel
theorem dX3_readFrom_36 : decode cX3_readFrom 36 = .ok (.aload_n 1, 1) := by decide +kernel
theorem dX3_readFrom_37 : decode cX3_readFrom 37 = .ok (.iload_n 2, 1) := by decide +kernel
theorem dX3_readFrom_38 : decode cX3_readFrom 38 = .ok (.iconst 0, 1) := by decide +kernel
theorem dX3_readFrom_39 : decode cX3_readFrom 39 = .ok (.invokevirtual 48, 3) := by decide +kernel
theorem dX3_readFrom_42 : decode cX3_readFrom 42 = .ok (.invokevirtual 51, 3) := by decide +kernel
theorem dX3_readFrom_45 : decode cX3_readFrom 45 = .ok (.aload_n 0, 1) := by decide +kernel
theorem dX3_readFrom_46 : decode cX3_readFrom 46 = .ok (.iload_n 2, 1) := by decide +kernel
theorem dX3_readFrom_47 : decode cX3_readFrom 47 = .ok (.iconst 1, 1) := by decide +kernel
theorem dX3_readFrom_48 : decode cX3_readFrom 48 = .ok (.aload_n 1, 1) := by decide +kernel
theorem dX3_readFrom_49 : decode cX3_readFrom 49 = .ok (.iload_n 2, 1) := by decide +kernel
theorem dX3_readFrom_50 : decode cX3_readFrom 50 = .ok (.iconst 1, 1) := by decide +kernel
theorem dX3_readFrom_51 : decode cX3_readFrom 51 = .ok (.invokevirtual 48, 3) := by decide +kernel
theorem dX3_readFrom_54 : decode cX3_readFrom 54 = .ok (.invokevirtual 51, 3) := by decide +kernel
theorem dX3_readFrom_57 : decode cX3_readFrom 57 = .ok (.iinc 2 1, 3) := by decide +kernel
theorem dX3_readFrom_60 : decode cX3_readFrom 60 = .ok (.goto (-45), 3) := by decide +kernel
theorem dX3_readFrom_63 : decode cX3_readFrom 63 = .ok (.return_, 1) := by decide +kernel
theorem dX3_copyFrom_0 : decode cX3_copyFrom 0 = .ok (.aload_n 0, 1) := by decide +kernel
theorem dX3_copyFrom_1 : decode cX3_copyFrom 1 = .ok (.aload_n 1, 1) := by decide +kernel
theorem dX3_copyFrom_2 : decode cX3_copyFrom 2 = .ok (.getfield 24, 3) := by decide +kernel
theorem dX3_copyFrom_5 : decode cX3_copyFrom 5 = .ok (.putfield 24, 3) := by decide +kernel
theorem dX3_copyFrom_8 : decode cX3_copyFrom 8 = .ok (.aload_n 1, 1) := by decide +kernel
theorem dX3_copyFrom_9 : decode cX3_copyFrom 9 = .ok (.getfield 9, 3) := by decide +kernel
theorem dX3_copyFrom_12 : decode cX3_copyFrom 12 = .ok (.iconst 0, 1) := by decide +kernel
theorem dX3_copyFrom_13 : decode cX3_copyFrom 13 = .ok (.aload_n 0, 1) := by decide +kernel
theorem dX3_copyFrom_14 : decode cX3_copyFrom 14 = .ok (.getfield 9, 3) := by decide +kernel
theorem dX3_copyFrom_17 : decode cX3_copyFrom 17 = .ok (.iconst 0, 1) := by decide +kernel
theorem dX3_copyFrom_18 : decode cX3_copyFrom 18 = .ok (.bipush 6, 2) := by decide +kernel
theorem dX3_copyFrom_20 : decode cX3_copyFrom 20 = .ok (.invokestatic 55, 3) := by decide +kernel
theorem dX3_copyFrom_23 : decode cX3_copyFrom 23 = .ok (.aload_n 1, 1) := by decide +kernel
theorem dX3_copyFrom_24 : decode cX3_copyFrom 24 = .ok (.getfield 15, 3) := by decide +kernel
theorem dX3_copyFrom_27 : decode cX3_copyFrom 27 = .ok (.iconst 0, 1) := by decide +kernel
theorem dX3_copyFrom_28 : decode cX3_copyFrom 28 = .ok (.aload_n 0, 1) := by decide +kernel
theorem dX3_copyFrom_29 : decode cX3_copyFrom 29 = .ok (.getfield 15, 3) := by decide +kernel
theorem dX3_copyFrom_32 : decode cX3_copyFrom 32 = .ok (.iconst 0, 1) := by decide +kernel
theorem dX3_copyFrom_33 : decode cX3_copyFrom 33 = .ok (.bipush 12, 2) := by decide +kernel
theorem dX3_copyFrom_35 : decode cX3_copyFrom 35 = .ok (.invokestatic 55, 3) := by decide +kernel
theorem dX3_copyFrom_38 : decode cX3_copyFrom 38 = .ok (.return_, 1) := by decide +kernel
theorem dX3_kindOf_0 : decode cX3_kindOf 0 = .ok (.aload_n 0, 1) := by decide +kernel
theorem dX3_kindOf_1 : decode cX3_kindOf 1 = .ok (.iload_n 1, 1) := by decide +kernel
theorem dX3_kindOf_2 : decode cX3_kindOf 2 = .ok (.invokevirtual 61, 3) := by decide +kernel
theorem dX3_kindOf_5 : decode cX3_kindOf 5 = .ok (.ifCond .eq 12, 3) := by decide +kernel
theorem dX3_kindOf_8 : decode cX3_kindOf 8 = .ok (.aload_n 0, 1) := by decide +kernel
theorem dX3_kindOf_9 : decode cX3_kindOf 9 = .ok (.getfield 9, 3) := by decide +kernel
theorem dX3_kindOf_12 : decode cX3_kindOf 12 = .ok (.iload_n 1, 1) := by decide +kernel
theorem dX3_kindOf_13 : decode cX3_kindOf 13 = .ok (.iaload, 1) := by decide +kernel
theorem dX3_kindOf_14 : decode cX3_kindOf 14 = .ok (.goto 4, 3) := by decide +kernel
theorem dX3_kindOf_17 : decode cX3_kindOf 17 = .ok (.iconst (-1), 1) := by decide +kernel
theorem dX3_kindOf_18 : decode cX3_kindOf 18 = .ok (.ireturn, 1) := by decide +kernel
theorem dX3_setKind_0 : decode cX3_setKind 0 = .ok (.aload_n 0, 1) := by decide +kernel
theorem dX3_setKind_1 : decode cX3_setKind 1 = .ok (.iload_n 1, 1) := by decide +kernel
theorem dX3_setKind_2 : decode cX3_setKind 2 = .ok (.invokevirtual 61, 3) := by decide +kernel
theorem dX3_setKind_5 : decode cX3_setKind 5 = .ok (.ifCond .eq 10, 3) := by decide +kernel
theorem dX3_setKind_8 : decode cX3_setKind 8 = .ok (.aload_n 0, 1) := by decide +kernel
theorem dX3_setKind_9 : decode cX3_setKind 9 = .ok (.getfield 9, 3) := by decide +kernel
theorem dX3_setKind_12 : decode cX3_setKind 12 = .ok (.iload_n 1, 1) := by decide +kernel
theorem dX3_setKind_13 : decode cX3_setKind 13 = .ok (.iload_n 2, 1) := by decide +kernel
theorem dX3_setKind_14 : decode cX3_setKind 14 = .ok (.iastore, 1) := by decide +kernel
theorem dX3_setKind_15 : decode cX3_setKind 15 = .ok (.return_, 1) := by decide +kernel
theorem dX3_toldNext_0 : decode cX3_toldNext 0 = .ok (.aload_n 0, 1) := by decide +kernel
theorem dX3_toldNext_1 : decode cX3_toldNext 1 = .ok (.iload_n 1, 1) := by decide +kernel
theorem dX3_toldNext_2 : decode cX3_toldNext 2 = .ok (.invokevirtual 61, 3) := by decide +kernel
theorem dX3_toldNext_5 : decode cX3_toldNext 5 = .ok (.ifCond .eq 23, 3) := by decide +kernel
theorem dX3_toldNext_8 : decode cX3_toldNext 8 = .ok (.iload_n 2, 1) := by decide +kernel
theorem dX3_toldNext_9 : decode cX3_toldNext 9 = .ok (.invokestatic 65, 3) := by decide +kernel
theorem dX3_toldNext_12 : decode cX3_toldNext 12 = .ok (.ifCond .eq 16, 3) := by decide +kernel
theorem dX3_toldNext_15 : decode cX3_toldNext 15 = .ok (.aload_n 0, 1) := by decide +kernel
theorem dX3_toldNext_16 : decode cX3_toldNext 16 = .ok (.getfield 15, 3) := by decide +kernel
theorem dX3_toldNext_19 : decode cX3_toldNext 19 = .ok (.iconst 2, 1) := by decide +kernel
theorem dX3_toldNext_20 : decode cX3_toldNext 20 = .ok (.iload_n 1, 1) := by decide +kernel
theorem dX3_toldNext_21 : decode cX3_toldNext 21 = .ok (.imul, 1) := by decide +kernel
theorem dX3_toldNext_22 : decode cX3_toldNext 22 = .ok (.iload_n 2, 1) := by decide +kernel
theorem dX3_toldNext_23 : decode cX3_toldNext 23 = .ok (.iadd, 1) := by decide +kernel
theorem dX3_toldNext_24 : decode cX3_toldNext 24 = .ok (.iaload, 1) := by decide +kernel
theorem dX3_toldNext_25 : decode cX3_toldNext 25 = .ok (.goto 4, 3) := by decide +kernel
theorem dX3_toldNext_28 : decode cX3_toldNext 28 = .ok (.iconst (-1), 1) := by decide +kernel
theorem dX3_toldNext_29 : decode cX3_toldNext 29 = .ok (.ireturn, 1) := by decide +kernel
theorem dX3_setNext_0 : decode cX3_setNext 0 = .ok (.aload_n 0, 1) := by decide +kernel
theorem dX3_setNext_1 : decode cX3_setNext 1 = .ok (.iload_n 1, 1) := by decide +kernel
theorem dX3_setNext_2 : decode cX3_setNext 2 = .ok (.invokevirtual 61, 3) := by decide +kernel
theorem dX3_setNext_5 : decode cX3_setNext 5 = .ok (.ifCond .eq 21, 3) := by decide +kernel
theorem dX3_setNext_8 : decode cX3_setNext 8 = .ok (.iload_n 2, 1) := by decide +kernel
theorem dX3_setNext_9 : decode cX3_setNext 9 = .ok (.invokestatic 65, 3) := by decide +kernel
theorem dX3_setNext_12 : decode cX3_setNext 12 = .ok (.ifCond .eq 14, 3) := by decide +kernel
theorem dX3_setNext_15 : decode cX3_setNext 15 = .ok (.aload_n 0, 1) := by decide +kernel
theorem dX3_setNext_16 : decode cX3_setNext 16 = .ok (.getfield 15, 3) := by decide +kernel
theorem dX3_setNext_19 : decode cX3_setNext 19 = .ok (.iconst 2, 1) := by decide +kernel
theorem dX3_setNext_20 : decode cX3_setNext 20 = .ok (.iload_n 1, 1) := by decide +kernel
theorem dX3_setNext_21 : decode cX3_setNext 21 = .ok (.imul, 1) := by decide +kernel
theorem dX3_setNext_22 : decode cX3_setNext 22 = .ok (.iload_n 2, 1) := by decide +kernel
theorem dX3_setNext_23 : decode cX3_setNext 23 = .ok (.iadd, 1) := by decide +kernel
theorem dX3_setNext_24 : decode cX3_setNext 24 = .ok (.iload_n 3, 1) := by decide +kernel
theorem dX3_setNext_25 : decode cX3_setNext 25 = .ok (.iastore, 1) := by decide +kernel
theorem dX3_setNext_26 : decode cX3_setNext 26 = .ok (.return_, 1) := by decide +kernel
theorem dX3_flipsFirst_0 : decode cX3_flipsFirst 0 = .ok (.iload_n 1, 1) := by decide +kernel
theorem dX3_flipsFirst_1 : decode cX3_flipsFirst 1 = .ok (.ifCond .lt 11, 3) := by decide +kernel
theorem dX3_flipsFirst_4 : decode cX3_flipsFirst 4 = .ok (.iload_n 1, 1) := by decide +kernel
theorem dX3_flipsFirst_5 : decode cX3_flipsFirst 5 = .ok (.aload_n 0, 1) := by decide +kernel
theorem dX3_flipsFirst_6 : decode cX3_flipsFirst 6 = .ok (.getfield 24, 3) := by decide +kernel
theorem dX3_flipsFirst_9 : decode cX3_flipsFirst 9 = .ok (.if_icmp .lt 5, 3) := by decide +kernel
theorem dX3_flipsFirst_12 : decode cX3_flipsFirst 12 = .ok (.iconst 0, 1) := by decide +kernel
theorem dX3_flipsFirst_13 : decode cX3_flipsFirst 13 = .ok (.ireturn, 1) := by decide +kernel
theorem dX3_flipsFirst_14 : decode cX3_flipsFirst 14 = .ok (.aload_n 0, 1) := by decide +kernel
theorem dX3_flipsFirst_15 : decode cX3_flipsFirst 15 = .ok (.getfield 9, 3) := by decide +kernel
theorem dX3_flipsFirst_18 : decode cX3_flipsFirst 18 = .ok (.iload_n 1, 1) := by decide +kernel
theorem dX3_flipsFirst_19 : decode cX3_flipsFirst 19 = .ok (.iaload, 1) := by decide +kernel
theorem dX3_flipsFirst_20 : decode cX3_flipsFirst 20 = .ok (.istore_n 2, 1) := by decide +kernel
theorem dX3_flipsFirst_21 : decode cX3_flipsFirst 21 = .ok (.iload_n 2, 1) := by decide +kernel
theorem dX3_flipsFirst_22 : decode cX3_flipsFirst 22 = .ok (.iconst 1, 1) := by decide +kernel
theorem dX3_flipsFirst_23 : decode cX3_flipsFirst 23 = .ok (.if_icmp .eq 13, 3) := by decide +kernel
theorem dX3_flipsFirst_26 : decode cX3_flipsFirst 26 = .ok (.iload_n 2, 1) := by decide +kernel
theorem dX3_flipsFirst_27 : decode cX3_flipsFirst 27 = .ok (.iconst 2, 1) := by decide +kernel
theorem dX3_flipsFirst_28 : decode cX3_flipsFirst 28 = .ok (.if_icmp .eq 8, 3) := by decide +kernel
theorem dX3_flipsFirst_31 : decode cX3_flipsFirst 31 = .ok (.iload_n 2, 1) := by decide +kernel
theorem dX3_flipsFirst_32 : decode cX3_flipsFirst 32 = .ok (.iconst 4, 1) := by decide +kernel
theorem dX3_flipsFirst_33 : decode cX3_flipsFirst 33 = .ok (.if_icmp .ne 7, 3) := by decide +kernel
theorem dX3_flipsFirst_36 : decode cX3_flipsFirst 36 = .ok (.iconst 1, 1) := by decide +kernel
theorem dX3_flipsFirst_37 : decode cX3_flipsFirst 37 = .ok (.goto 4, 3) := by decide +kernel
theorem dX3_flipsFirst_40 : decode cX3_flipsFirst 40 = .ok (.iconst 0, 1) := by decide +kernel
theorem dX3_flipsFirst_41 : decode cX3_flipsFirst 41 = .ok (.ireturn, 1) := by decide +kernel
theorem dX3_goesOn_0 : decode cX3_goesOn 0 = .ok (.iload_n 1, 1) := by decide +kernel
theorem dX3_goesOn_1 : decode cX3_goesOn 1 = .ok (.ifCond .lt 20, 3) := by decide +kernel
theorem dX3_goesOn_4 : decode cX3_goesOn 4 = .ok (.iload_n 1, 1) := by decide +kernel
theorem dX3_goesOn_5 : decode cX3_goesOn 5 = .ok (.aload_n 0, 1) := by decide +kernel
theorem dX3_goesOn_6 : decode cX3_goesOn 6 = .ok (.getfield 24, 3) := by decide +kernel
theorem dX3_goesOn_9 : decode cX3_goesOn 9 = .ok (.if_icmp .ge 12, 3) := by decide +kernel
theorem dX3_goesOn_12 : decode cX3_goesOn 12 = .ok (.iload_n 2, 1) := by decide +kernel
theorem dX3_goesOn_13 : decode cX3_goesOn 13 = .ok (.ifCond .lt 8, 3) := by decide +kernel
theorem dX3_goesOn_16 : decode cX3_goesOn 16 = .ok (.iload_n 2, 1) := by decide +kernel
theorem dX3_goesOn_17 : decode cX3_goesOn 17 = .ok (.iconst 1, 1) := by decide +kernel
theorem dX3_goesOn_18 : decode cX3_goesOn 18 = .ok (.if_icmp .le 5, 3) := by decide +kernel
theorem dX3_goesOn_21 : decode cX3_goesOn 21 = .ok (.iconst (-1), 1) := by decide +kernel
theorem dX3_goesOn_22 : decode cX3_goesOn 22 = .ok (.ireturn, 1) := by decide +kernel
theorem dX3_goesOn_23 : decode cX3_goesOn 23 = .ok (.aload_n 0, 1) := by decide +kernel
theorem dX3_goesOn_24 : decode cX3_goesOn 24 = .ok (.getfield 9, 3) := by decide +kernel
theorem dX3_goesOn_27 : decode cX3_goesOn 27 = .ok (.iload_n 1, 1) := by decide +kernel
theorem dX3_goesOn_28 : decode cX3_goesOn 28 = .ok (.iaload, 1) := by decide +kernel
theorem dX3_goesOn_29 : decode cX3_goesOn 29 = .ok (.istore_n 3, 1) := by decide +kernel
theorem dX3_goesOn_30 : decode cX3_goesOn 30 = .ok (.iload_n 3, 1) := by decide +kernel
theorem dX3_goesOn_31 : decode cX3_goesOn 31 = .ok (.iconst 3, 1) := by decide +kernel
theorem dX3_goesOn_32 : decode cX3_goesOn 32 = .ok (.if_icmp .eq 8, 3) := by decide +kernel
theorem dX3_goesOn_35 : decode cX3_goesOn 35 = .ok (.iload_n 3, 1) := by decide +kernel
theorem dX3_goesOn_36 : decode cX3_goesOn 36 = .ok (.iconst 4, 1) := by decide +kernel
theorem dX3_goesOn_37 : decode cX3_goesOn 37 = .ok (.if_icmp .ne 5, 3) := by decide +kernel
theorem dX3_goesOn_40 : decode cX3_goesOn 40 = .ok (.iconst (-1), 1) := by decide +kernel
theorem dX3_goesOn_41 : decode cX3_goesOn 41 = .ok (.ireturn, 1) := by decide +kernel
theorem dX3_goesOn_42 : decode cX3_goesOn 42 = .ok (.aload_n 0, 1) := by decide +kernel
theorem dX3_goesOn_43 : decode cX3_goesOn 43 = .ok (.getfield 15, 3) := by decide +kernel
theorem dX3_goesOn_46 : decode cX3_goesOn 46 = .ok (.iconst 2, 1) := by decide +kernel
theorem dX3_goesOn_47 : decode cX3_goesOn 47 = .ok (.iload_n 1, 1) := by decide +kernel
theorem dX3_goesOn_48 : decode cX3_goesOn 48 = .ok (.imul, 1) := by decide +kernel
theorem dX3_goesOn_49 : decode cX3_goesOn 49 = .ok (.iload_n 3, 1) := by decide +kernel
theorem dX3_goesOn_50 : decode cX3_goesOn 50 = .ok (.iconst 2, 1) := by decide +kernel
theorem dX3_goesOn_51 : decode cX3_goesOn 51 = .ok (.if_icmp .ne 9, 3) := by decide +kernel
theorem dX3_goesOn_54 : decode cX3_goesOn 54 = .ok (.iconst 1, 1) := by decide +kernel
theorem dX3_goesOn_55 : decode cX3_goesOn 55 = .ok (.iload_n 2, 1) := by decide +kernel
theorem dX3_goesOn_56 : decode cX3_goesOn 56 = .ok (.isub, 1) := by decide +kernel
theorem dX3_goesOn_57 : decode cX3_goesOn 57 = .ok (.goto 4, 3) := by decide +kernel
theorem dX3_goesOn_60 : decode cX3_goesOn 60 = .ok (.iload_n 2, 1) := by decide +kernel
theorem dX3_goesOn_61 : decode cX3_goesOn 61 = .ok (.iadd, 1) := by decide +kernel
theorem dX3_goesOn_62 : decode cX3_goesOn 62 = .ok (.iaload, 1) := by decide +kernel
theorem dX3_goesOn_63 : decode cX3_goesOn 63 = .ok (.ireturn, 1) := by decide +kernel
theorem dX3_reachOf_0 : decode cX3_reachOf 0 = .ok (.aload_n 0, 1) := by decide +kernel
theorem dX3_reachOf_1 : decode cX3_reachOf 1 = .ok (.iload_n 1, 1) := by decide +kernel
theorem dX3_reachOf_2 : decode cX3_reachOf 2 = .ok (.invokevirtual 68, 3) := by decide +kernel
theorem dX3_reachOf_5 : decode cX3_reachOf 5 = .ok (.istore_n 2, 1) := by decide +kernel
theorem dX3_reachOf_6 : decode cX3_reachOf 6 = .ok (.iconst 0, 1) := by decide +kernel
theorem dX3_reachOf_7 : decode cX3_reachOf 7 = .ok (.istore_n 3, 1) := by decide +kernel
theorem dX3_reachOf_8 : decode cX3_reachOf 8 = .ok (.iload_n 3, 1) := by decide +kernel
theorem dX3_reachOf_9 : decode cX3_reachOf 9 = .ok (.bipush 6, 2) := by decide +kernel
theorem dX3_reachOf_11 : decode cX3_reachOf 11 = .ok (.if_icmp .ge 46, 3) := by decide +kernel
theorem dX3_reachOf_14 : decode cX3_reachOf 14 = .ok (.iconst 0, 1) := by decide +kernel
theorem dX3_reachOf_15 : decode cX3_reachOf 15 = .ok (.istore 4, 2) := by decide +kernel
theorem dX3_reachOf_17 : decode cX3_reachOf 17 = .ok (.iload 4, 2) := by decide +kernel
theorem dX3_reachOf_19 : decode cX3_reachOf 19 = .ok (.aload_n 0, 1) := by decide +kernel
theorem dX3_reachOf_20 : decode cX3_reachOf 20 = .ok (.getfield 24, 3) := by decide +kernel
theorem dX3_reachOf_23 : decode cX3_reachOf 23 = .ok (.if_icmp .ge 28, 3) := by decide +kernel
theorem dX3_reachOf_26 : decode cX3_reachOf 26 = .ok (.iload_n 2, 1) := by decide +kernel
theorem dX3_reachOf_27 : decode cX3_reachOf 27 = .ok (.iload 4, 2) := by decide +kernel
theorem dX3_reachOf_29 : decode cX3_reachOf 29 = .ok (.ishr, 1) := by decide +kernel
theorem dX3_reachOf_30 : decode cX3_reachOf 30 = .ok (.iconst 1, 1) := by decide +kernel
theorem dX3_reachOf_31 : decode cX3_reachOf 31 = .ok (.iand, 1) := by decide +kernel
theorem dX3_reachOf_32 : decode cX3_reachOf 32 = .ok (.iconst 1, 1) := by decide +kernel
theorem dX3_reachOf_33 : decode cX3_reachOf 33 = .ok (.if_icmp .ne 12, 3) := by decide +kernel
theorem dX3_reachOf_36 : decode cX3_reachOf 36 = .ok (.iload_n 2, 1) := by decide +kernel
theorem dX3_reachOf_37 : decode cX3_reachOf 37 = .ok (.aload_n 0, 1) := by decide +kernel
theorem dX3_reachOf_38 : decode cX3_reachOf 38 = .ok (.iload 4, 2) := by decide +kernel
theorem dX3_reachOf_40 : decode cX3_reachOf 40 = .ok (.invokevirtual 68, 3) := by decide +kernel
theorem dX3_reachOf_43 : decode cX3_reachOf 43 = .ok (.ior, 1) := by decide +kernel
theorem dX3_reachOf_44 : decode cX3_reachOf 44 = .ok (.istore_n 2, 1) := by decide +kernel
theorem dX3_reachOf_45 : decode cX3_reachOf 45 = .ok (.iinc 4 1, 3) := by decide +kernel
theorem dX3_reachOf_48 : decode cX3_reachOf 48 = .ok (.goto (-31), 3) := by decide +kernel
theorem dX3_reachOf_51 : decode cX3_reachOf 51 = .ok (.iinc 3 1, 3) := by decide +kernel
theorem dX3_reachOf_54 : decode cX3_reachOf 54 = .ok (.goto (-46), 3) := by decide +kernel
theorem dX3_reachOf_57 : decode cX3_reachOf 57 = .ok (.iload_n 2, 1) := by decide +kernel
theorem dX3_reachOf_58 : decode cX3_reachOf 58 = .ok (.ireturn, 1) := by decide +kernel
theorem dX3_nextsOf_0 : decode cX3_nextsOf 0 = .ok (.iconst 0, 1) := by decide +kernel
theorem dX3_nextsOf_1 : decode cX3_nextsOf 1 = .ok (.istore_n 2, 1) := by decide +kernel
theorem dX3_nextsOf_2 : decode cX3_nextsOf 2 = .ok (.iconst 0, 1) := by decide +kernel
theorem dX3_nextsOf_3 : decode cX3_nextsOf 3 = .ok (.istore_n 3, 1) := by decide +kernel
theorem dX3_nextsOf_4 : decode cX3_nextsOf 4 = .ok (.iload_n 3, 1) := by decide +kernel
theorem dX3_nextsOf_5 : decode cX3_nextsOf 5 = .ok (.iconst 1, 1) := by decide +kernel
theorem dX3_nextsOf_6 : decode cX3_nextsOf 6 = .ok (.if_icmp .gt 37, 3) := by decide +kernel
theorem dX3_nextsOf_9 : decode cX3_nextsOf 9 = .ok (.aload_n 0, 1) := by decide +kernel
theorem dX3_nextsOf_10 : decode cX3_nextsOf 10 = .ok (.iload_n 1, 1) := by decide +kernel
theorem dX3_nextsOf_11 : decode cX3_nextsOf 11 = .ok (.iload_n 3, 1) := by decide +kernel
theorem dX3_nextsOf_12 : decode cX3_nextsOf 12 = .ok (.invokevirtual 71, 3) := by decide +kernel
theorem dX3_nextsOf_15 : decode cX3_nextsOf 15 = .ok (.istore 4, 2) := by decide +kernel
theorem dX3_nextsOf_17 : decode cX3_nextsOf 17 = .ok (.iload_n 2, 1) := by decide +kernel
theorem dX3_nextsOf_18 : decode cX3_nextsOf 18 = .ok (.aload_n 0, 1) := by decide +kernel
theorem dX3_nextsOf_19 : decode cX3_nextsOf 19 = .ok (.iload 4, 2) := by decide +kernel
theorem dX3_nextsOf_21 : decode cX3_nextsOf 21 = .ok (.invokevirtual 61, 3) := by decide +kernel
theorem dX3_nextsOf_24 : decode cX3_nextsOf 24 = .ok (.ifCond .eq 10, 3) := by decide +kernel
theorem dX3_nextsOf_27 : decode cX3_nextsOf 27 = .ok (.iconst 1, 1) := by decide +kernel
theorem dX3_nextsOf_28 : decode cX3_nextsOf 28 = .ok (.iload 4, 2) := by decide +kernel
theorem dX3_nextsOf_30 : decode cX3_nextsOf 30 = .ok (.ishl, 1) := by decide +kernel
theorem dX3_nextsOf_31 : decode cX3_nextsOf 31 = .ok (.goto 4, 3) := by decide +kernel
theorem dX3_nextsOf_34 : decode cX3_nextsOf 34 = .ok (.iconst 0, 1) := by decide +kernel
theorem dX3_nextsOf_35 : decode cX3_nextsOf 35 = .ok (.ior, 1) := by decide +kernel
theorem dX3_nextsOf_36 : decode cX3_nextsOf 36 = .ok (.istore_n 2, 1) := by decide +kernel
theorem dX3_nextsOf_37 : decode cX3_nextsOf 37 = .ok (.iinc 3 1, 3) := by decide +kernel
theorem dX3_nextsOf_40 : decode cX3_nextsOf 40 = .ok (.goto (-36), 3) := by decide +kernel
theorem dX3_nextsOf_43 : decode cX3_nextsOf 43 = .ok (.iload_n 2, 1) := by decide +kernel
theorem dX3_nextsOf_44 : decode cX3_nextsOf 44 = .ok (.ireturn, 1) := by decide +kernel
theorem dX3_isInCore_0 : decode cX3_isInCore 0 = .ok (.aload_n 0, 1) := by decide +kernel
theorem dX3_isInCore_1 : decode cX3_isInCore 1 = .ok (.iload_n 1, 1) := by decide +kernel
theorem dX3_isInCore_2 : decode cX3_isInCore 2 = .ok (.invokevirtual 61, 3) := by decide +kernel
theorem dX3_isInCore_5 : decode cX3_isInCore 5 = .ok (.ifCond .eq 20, 3) := by decide +kernel
theorem dX3_isInCore_8 : decode cX3_isInCore 8 = .ok (.aload_n 0, 1) := by decide +kernel
theorem dX3_isInCore_9 : decode cX3_isInCore 9 = .ok (.iload_n 1, 1) := by decide +kernel
theorem dX3_isInCore_10 : decode cX3_isInCore 10 = .ok (.invokevirtual 74, 3) := by decide +kernel
theorem dX3_isInCore_13 : decode cX3_isInCore 13 = .ok (.iload_n 1, 1) := by decide +kernel
theorem dX3_isInCore_14 : decode cX3_isInCore 14 = .ok (.ishr, 1) := by decide +kernel
theorem dX3_isInCore_15 : decode cX3_isInCore 15 = .ok (.iconst 1, 1) := by decide +kernel
theorem dX3_isInCore_16 : decode cX3_isInCore 16 = .ok (.iand, 1) := by decide +kernel
theorem dX3_isInCore_17 : decode cX3_isInCore 17 = .ok (.iconst 1, 1) := by decide +kernel
theorem dX3_isInCore_18 : decode cX3_isInCore 18 = .ok (.if_icmp .ne 7, 3) := by decide +kernel
theorem dX3_isInCore_21 : decode cX3_isInCore 21 = .ok (.iconst 1, 1) := by decide +kernel
theorem dX3_isInCore_22 : decode cX3_isInCore 22 = .ok (.goto 4, 3) := by decide +kernel
theorem dX3_isInCore_25 : decode cX3_isInCore 25 = .ok (.iconst 0, 1) := by decide +kernel
theorem dX3_isInCore_26 : decode cX3_isInCore 26 = .ok (.ireturn, 1) := by decide +kernel
theorem dX3_inCore_0 : decode cX3_inCore 0 = .ok (.iconst 0, 1) := by decide +kernel
theorem dX3_inCore_1 : decode cX3_inCore 1 = .ok (.istore_n 1, 1) := by decide +kernel
theorem dX3_inCore_2 : decode cX3_inCore 2 = .ok (.iconst 0, 1) := by decide +kernel
theorem dX3_inCore_3 : decode cX3_inCore 3 = .ok (.istore_n 2, 1) := by decide +kernel
theorem dX3_inCore_4 : decode cX3_inCore 4 = .ok (.iload_n 2, 1) := by decide +kernel
theorem dX3_inCore_5 : decode cX3_inCore 5 = .ok (.aload_n 0, 1) := by decide +kernel
theorem dX3_inCore_6 : decode cX3_inCore 6 = .ok (.getfield 24, 3) := by decide +kernel
theorem dX3_inCore_9 : decode cX3_inCore 9 = .ok (.if_icmp .ge 25, 3) := by decide +kernel
theorem dX3_inCore_12 : decode cX3_inCore 12 = .ok (.iload_n 1, 1) := by decide +kernel
theorem dX3_inCore_13 : decode cX3_inCore 13 = .ok (.aload_n 0, 1) := by decide +kernel
theorem dX3_inCore_14 : decode cX3_inCore 14 = .ok (.iload_n 2, 1) := by decide +kernel
theorem dX3_inCore_15 : decode cX3_inCore 15 = .ok (.invokevirtual 77, 3) := by decide +kernel
theorem dX3_inCore_18 : decode cX3_inCore 18 = .ok (.ifCond .eq 7, 3) := by decide +kernel
theorem dX3_inCore_21 : decode cX3_inCore 21 = .ok (.iconst 1, 1) := by decide +kernel
theorem dX3_inCore_22 : decode cX3_inCore 22 = .ok (.goto 4, 3) := by decide +kernel
theorem dX3_inCore_25 : decode cX3_inCore 25 = .ok (.iconst 0, 1) := by decide +kernel
theorem dX3_inCore_26 : decode cX3_inCore 26 = .ok (.iadd, 1) := by decide +kernel
theorem dX3_inCore_27 : decode cX3_inCore 27 = .ok (.istore_n 1, 1) := by decide +kernel
theorem dX3_inCore_28 : decode cX3_inCore 28 = .ok (.iinc 2 1, 3) := by decide +kernel
theorem dX3_inCore_31 : decode cX3_inCore 31 = .ok (.goto (-27), 3) := by decide +kernel
theorem dX3_inCore_34 : decode cX3_inCore 34 = .ok (.iload_n 1, 1) := by decide +kernel
theorem dX3_inCore_35 : decode cX3_inCore 35 = .ok (.ireturn, 1) := by decide +kernel
theorem dX3_leastAlike_0 : decode cX3_leastAlike 0 = .ok (.aload_n 0, 1) := by decide +kernel
theorem dX3_leastAlike_1 : decode cX3_leastAlike 1 = .ok (.invokevirtual 80, 3) := by decide +kernel
theorem dX3_leastAlike_4 : decode cX3_leastAlike 4 = .ok (.aload_n 0, 1) := by decide +kernel
theorem dX3_leastAlike_5 : decode cX3_leastAlike 5 = .ok (.iload_n 1, 1) := by decide +kernel
theorem dX3_leastAlike_6 : decode cX3_leastAlike 6 = .ok (.invokevirtual 61, 3) := by decide +kernel
theorem dX3_leastAlike_9 : decode cX3_leastAlike 9 = .ok (.ifCond .eq 12, 3) := by decide +kernel
theorem dX3_leastAlike_12 : decode cX3_leastAlike 12 = .ok (.aload_n 0, 1) := by decide +kernel
theorem dX3_leastAlike_13 : decode cX3_leastAlike 13 = .ok (.getfield 18, 3) := by decide +kernel
theorem dX3_leastAlike_16 : decode cX3_leastAlike 16 = .ok (.iload_n 1, 1) := by decide +kernel
theorem dX3_leastAlike_17 : decode cX3_leastAlike 17 = .ok (.iaload, 1) := by decide +kernel
theorem dX3_leastAlike_18 : decode cX3_leastAlike 18 = .ok (.goto 4, 3) := by decide +kernel
theorem dX3_leastAlike_21 : decode cX3_leastAlike 21 = .ok (.iconst (-1), 1) := by decide +kernel
theorem dX3_leastAlike_22 : decode cX3_leastAlike 22 = .ok (.ireturn, 1) := by decide +kernel
theorem dX3_classes_0 : decode cX3_classes 0 = .ok (.aload_n 0, 1) := by decide +kernel
theorem dX3_classes_1 : decode cX3_classes 1 = .ok (.invokevirtual 80, 3) := by decide +kernel
theorem dX3_classes_4 : decode cX3_classes 4 = .ok (.iconst 0, 1) := by decide +kernel
theorem dX3_classes_5 : decode cX3_classes 5 = .ok (.istore_n 1, 1) := by decide +kernel
theorem dX3_classes_6 : decode cX3_classes 6 = .ok (.iconst 0, 1) := by decide +kernel
theorem dX3_classes_7 : decode cX3_classes 7 = .ok (.istore_n 2, 1) := by decide +kernel
theorem dX3_classes_8 : decode cX3_classes 8 = .ok (.iload_n 2, 1) := by decide +kernel
theorem dX3_classes_9 : decode cX3_classes 9 = .ok (.aload_n 0, 1) := by decide +kernel
theorem dX3_classes_10 : decode cX3_classes 10 = .ok (.getfield 24, 3) := by decide +kernel
theorem dX3_classes_13 : decode cX3_classes 13 = .ok (.if_icmp .ge 27, 3) := by decide +kernel
theorem dX3_classes_16 : decode cX3_classes 16 = .ok (.iload_n 1, 1) := by decide +kernel
theorem dX3_classes_17 : decode cX3_classes 17 = .ok (.aload_n 0, 1) := by decide +kernel
theorem dX3_classes_18 : decode cX3_classes 18 = .ok (.getfield 18, 3) := by decide +kernel
theorem dX3_classes_21 : decode cX3_classes 21 = .ok (.iload_n 2, 1) := by decide +kernel
theorem dX3_classes_22 : decode cX3_classes 22 = .ok (.iaload, 1) := by decide +kernel
theorem dX3_classes_23 : decode cX3_classes 23 = .ok (.iload_n 2, 1) := by decide +kernel
theorem dX3_classes_24 : decode cX3_classes 24 = .ok (.if_icmp .ne 7, 3) := by decide +kernel
theorem dX3_classes_27 : decode cX3_classes 27 = .ok (.iconst 1, 1) := by decide +kernel
theorem dX3_classes_28 : decode cX3_classes 28 = .ok (.goto 4, 3) := by decide +kernel
theorem dX3_classes_31 : decode cX3_classes 31 = .ok (.iconst 0, 1) := by decide +kernel
theorem dX3_classes_32 : decode cX3_classes 32 = .ok (.iadd, 1) := by decide +kernel
theorem dX3_classes_33 : decode cX3_classes 33 = .ok (.istore_n 1, 1) := by decide +kernel
theorem dX3_classes_34 : decode cX3_classes 34 = .ok (.iinc 2 1, 3) := by decide +kernel
theorem dX3_classes_37 : decode cX3_classes 37 = .ok (.goto (-29), 3) := by decide +kernel
theorem dX3_classes_40 : decode cX3_classes 40 = .ok (.iload_n 1, 1) := by decide +kernel
theorem dX3_classes_41 : decode cX3_classes 41 = .ok (.ireturn, 1) := by decide +kernel
theorem dX3_findAlike_0 : decode cX3_findAlike 0 = .ok (.iconst 0, 1) := by decide +kernel
theorem dX3_findAlike_1 : decode cX3_findAlike 1 = .ok (.istore_n 1, 1) := by decide +kernel
theorem dX3_findAlike_2 : decode cX3_findAlike 2 = .ok (.iload_n 1, 1) := by decide +kernel
theorem dX3_findAlike_3 : decode cX3_findAlike 3 = .ok (.bipush 6, 2) := by decide +kernel
theorem dX3_findAlike_5 : decode cX3_findAlike 5 = .ok (.if_icmp .gt 16, 3) := by decide +kernel
theorem dX3_findAlike_8 : decode cX3_findAlike 8 = .ok (.aload_n 0, 1) := by decide +kernel
theorem dX3_findAlike_9 : decode cX3_findAlike 9 = .ok (.getfield 18, 3) := by decide +kernel
theorem dX3_findAlike_12 : decode cX3_findAlike 12 = .ok (.iload_n 1, 1) := by decide +kernel
theorem dX3_findAlike_13 : decode cX3_findAlike 13 = .ok (.iconst 0, 1) := by decide +kernel
theorem dX3_findAlike_14 : decode cX3_findAlike 14 = .ok (.iastore, 1) := by decide +kernel
theorem dX3_findAlike_15 : decode cX3_findAlike 15 = .ok (.iinc 1 1, 3) := by decide +kernel
theorem dX3_findAlike_18 : decode cX3_findAlike 18 = .ok (.goto (-16), 3) := by decide +kernel
theorem dX3_findAlike_21 : decode cX3_findAlike 21 = .ok (.iconst 0, 1) := by decide +kernel
theorem dX3_findAlike_22 : decode cX3_findAlike 22 = .ok (.istore_n 1, 1) := by decide +kernel
theorem dX3_findAlike_23 : decode cX3_findAlike 23 = .ok (.iload_n 1, 1) := by decide +kernel
theorem dX3_findAlike_24 : decode cX3_findAlike 24 = .ok (.bipush 6, 2) := by decide +kernel
theorem dX3_findAlike_26 : decode cX3_findAlike 26 = .ok (.if_icmp .gt 49, 3) := by decide +kernel
theorem dX3_findAlike_29 : decode cX3_findAlike 29 = .ok (.iconst 0, 1) := by decide +kernel
theorem dX3_findAlike_30 : decode cX3_findAlike 30 = .ok (.istore_n 2, 1) := by decide +kernel
theorem dX3_findAlike_31 : decode cX3_findAlike 31 = .ok (.iload_n 2, 1) := by decide +kernel
theorem dX3_findAlike_32 : decode cX3_findAlike 32 = .ok (.bipush 6, 2) := by decide +kernel
theorem dX3_findAlike_34 : decode cX3_findAlike 34 = .ok (.if_icmp .gt 20, 3) := by decide +kernel
theorem dX3_findAlike_37 : decode cX3_findAlike 37 = .ok (.aload_n 0, 1) := by decide +kernel
theorem dX3_findAlike_38 : decode cX3_findAlike 38 = .ok (.getfield 21, 3) := by decide +kernel
theorem dX3_findAlike_41 : decode cX3_findAlike 41 = .ok (.iload_n 2, 1) := by decide +kernel
theorem dX3_findAlike_42 : decode cX3_findAlike 42 = .ok (.aload_n 0, 1) := by decide +kernel
theorem dX3_findAlike_43 : decode cX3_findAlike 43 = .ok (.iload_n 2, 1) := by decide +kernel
theorem dX3_findAlike_44 : decode cX3_findAlike 44 = .ok (.invokevirtual 83, 3) := by decide +kernel
theorem dX3_findAlike_47 : decode cX3_findAlike 47 = .ok (.iastore, 1) := by decide +kernel
theorem dX3_findAlike_48 : decode cX3_findAlike 48 = .ok (.iinc 2 1, 3) := by decide +kernel
theorem dX3_findAlike_51 : decode cX3_findAlike 51 = .ok (.goto (-20), 3) := by decide +kernel
theorem dX3_findAlike_54 : decode cX3_findAlike 54 = .ok (.aload_n 0, 1) := by decide +kernel
theorem dX3_findAlike_55 : decode cX3_findAlike 55 = .ok (.getfield 21, 3) := by decide +kernel
theorem dX3_findAlike_58 : decode cX3_findAlike 58 = .ok (.iconst 0, 1) := by decide +kernel
theorem dX3_findAlike_59 : decode cX3_findAlike 59 = .ok (.aload_n 0, 1) := by decide +kernel
theorem dX3_findAlike_60 : decode cX3_findAlike 60 = .ok (.getfield 18, 3) := by decide +kernel
theorem dX3_findAlike_63 : decode cX3_findAlike 63 = .ok (.iconst 0, 1) := by decide +kernel
theorem dX3_findAlike_64 : decode cX3_findAlike 64 = .ok (.bipush 7, 2) := by decide +kernel
theorem dX3_findAlike_66 : decode cX3_findAlike 66 = .ok (.invokestatic 55, 3) := by decide +kernel
theorem dX3_findAlike_69 : decode cX3_findAlike 69 = .ok (.iinc 1 1, 3) := by decide +kernel
theorem dX3_findAlike_72 : decode cX3_findAlike 72 = .ok (.goto (-49), 3) := by decide +kernel
theorem dX3_findAlike_75 : decode cX3_findAlike 75 = .ok (.return_, 1) := by decide +kernel
theorem dX3_leastThatSeemsAlike_0 : decode cX3_leastThatSeemsAlike 0 = .ok (.iconst 0, 1) := by decide +kernel
theorem dX3_leastThatSeemsAlike_1 : decode cX3_leastThatSeemsAlike 1 = .ok (.istore_n 2, 1) := by decide +kernel
theorem dX3_leastThatSeemsAlike_2 : decode cX3_leastThatSeemsAlike 2 = .ok (.iload_n 2, 1) := by decide +kernel
theorem dX3_leastThatSeemsAlike_3 : decode cX3_leastThatSeemsAlike 3 = .ok (.iload_n 1, 1) := by decide +kernel
theorem dX3_leastThatSeemsAlike_4 : decode cX3_leastThatSeemsAlike 4 = .ok (.if_icmp .ge 54, 3) := by decide +kernel
theorem dX3_leastThatSeemsAlike_7 : decode cX3_leastThatSeemsAlike 7 = .ok (.aload_n 0, 1) := by decide +kernel
theorem dX3_leastThatSeemsAlike_8 : decode cX3_leastThatSeemsAlike 8 = .ok (.iload_n 1, 1) := by decide +kernel
theorem dX3_leastThatSeemsAlike_9 : decode cX3_leastThatSeemsAlike 9 = .ok (.invokevirtual 86, 3) := by decide +kernel
theorem dX3_leastThatSeemsAlike_12 : decode cX3_leastThatSeemsAlike 12 = .ok (.aload_n 0, 1) := by decide +kernel
theorem dX3_leastThatSeemsAlike_13 : decode cX3_leastThatSeemsAlike 13 = .ok (.iload_n 2, 1) := by decide +kernel
theorem dX3_leastThatSeemsAlike_14 : decode cX3_leastThatSeemsAlike 14 = .ok (.invokevirtual 86, 3) := by decide +kernel
theorem dX3_leastThatSeemsAlike_17 : decode cX3_leastThatSeemsAlike 17 = .ok (.if_icmp .ne 35, 3) := by decide +kernel
theorem dX3_leastThatSeemsAlike_20 : decode cX3_leastThatSeemsAlike 20 = .ok (.aload_n 0, 1) := by decide +kernel
theorem dX3_leastThatSeemsAlike_21 : decode cX3_leastThatSeemsAlike 21 = .ok (.iload_n 1, 1) := by decide +kernel
theorem dX3_leastThatSeemsAlike_22 : decode cX3_leastThatSeemsAlike 22 = .ok (.iconst 0, 1) := by decide +kernel
theorem dX3_leastThatSeemsAlike_23 : decode cX3_leastThatSeemsAlike 23 = .ok (.invokevirtual 89, 3) := by decide +kernel
theorem dX3_leastThatSeemsAlike_26 : decode cX3_leastThatSeemsAlike 26 = .ok (.aload_n 0, 1) := by decide +kernel
theorem dX3_leastThatSeemsAlike_27 : decode cX3_leastThatSeemsAlike 27 = .ok (.iload_n 2, 1) := by decide +kernel
theorem dX3_leastThatSeemsAlike_28 : decode cX3_leastThatSeemsAlike 28 = .ok (.iconst 0, 1) := by decide +kernel
theorem dX3_leastThatSeemsAlike_29 : decode cX3_leastThatSeemsAlike 29 = .ok (.invokevirtual 89, 3) := by decide +kernel
theorem dX3_leastThatSeemsAlike_32 : decode cX3_leastThatSeemsAlike 32 = .ok (.if_icmp .ne 20, 3) := by decide +kernel
theorem dX3_leastThatSeemsAlike_35 : decode cX3_leastThatSeemsAlike 35 = .ok (.aload_n 0, 1) := by decide +kernel
theorem dX3_leastThatSeemsAlike_36 : decode cX3_leastThatSeemsAlike 36 = .ok (.iload_n 1, 1) := by decide +kernel
theorem dX3_leastThatSeemsAlike_37 : decode cX3_leastThatSeemsAlike 37 = .ok (.iconst 1, 1) := by decide +kernel
theorem dX3_leastThatSeemsAlike_38 : decode cX3_leastThatSeemsAlike 38 = .ok (.invokevirtual 89, 3) := by decide +kernel
theorem dX3_leastThatSeemsAlike_41 : decode cX3_leastThatSeemsAlike 41 = .ok (.aload_n 0, 1) := by decide +kernel
theorem dX3_leastThatSeemsAlike_42 : decode cX3_leastThatSeemsAlike 42 = .ok (.iload_n 2, 1) := by decide +kernel
theorem dX3_leastThatSeemsAlike_43 : decode cX3_leastThatSeemsAlike 43 = .ok (.iconst 1, 1) := by decide +kernel
theorem dX3_leastThatSeemsAlike_44 : decode cX3_leastThatSeemsAlike 44 = .ok (.invokevirtual 89, 3) := by decide +kernel
theorem dX3_leastThatSeemsAlike_47 : decode cX3_leastThatSeemsAlike 47 = .ok (.if_icmp .ne 5, 3) := by decide +kernel
theorem dX3_leastThatSeemsAlike_50 : decode cX3_leastThatSeemsAlike 50 = .ok (.iload_n 2, 1) := by decide +kernel
theorem dX3_leastThatSeemsAlike_51 : decode cX3_leastThatSeemsAlike 51 = .ok (.ireturn, 1) := by decide +kernel
theorem dX3_leastThatSeemsAlike_52 : decode cX3_leastThatSeemsAlike 52 = .ok (.iinc 2 1, 3) := by decide +kernel
theorem dX3_leastThatSeemsAlike_55 : decode cX3_leastThatSeemsAlike 55 = .ok (.goto (-53), 3) := by decide +kernel
theorem dX3_leastThatSeemsAlike_58 : decode cX3_leastThatSeemsAlike 58 = .ok (.iload_n 1, 1) := by decide +kernel
theorem dX3_leastThatSeemsAlike_59 : decode cX3_leastThatSeemsAlike 59 = .ok (.ireturn, 1) := by decide +kernel
theorem dX3_leastBehind_0 : decode cX3_leastBehind 0 = .ok (.aload_n 0, 1) := by decide +kernel
theorem dX3_leastBehind_1 : decode cX3_leastBehind 1 = .ok (.iload_n 1, 1) := by decide +kernel
theorem dX3_leastBehind_2 : decode cX3_leastBehind 2 = .ok (.iload_n 2, 1) := by decide +kernel
theorem dX3_leastBehind_3 : decode cX3_leastBehind 3 = .ok (.invokevirtual 71, 3) := by decide +kernel
theorem dX3_leastBehind_6 : decode cX3_leastBehind 6 = .ok (.istore_n 3, 1) := by decide +kernel
theorem dX3_leastBehind_7 : decode cX3_leastBehind 7 = .ok (.aload_n 0, 1) := by decide +kernel
theorem dX3_leastBehind_8 : decode cX3_leastBehind 8 = .ok (.getfield 18, 3) := by decide +kernel
theorem dX3_leastBehind_11 : decode cX3_leastBehind 11 = .ok (.aload_n 0, 1) := by decide +kernel
theorem dX3_leastBehind_12 : decode cX3_leastBehind 12 = .ok (.iload_n 3, 1) := by decide +kernel
theorem dX3_leastBehind_13 : decode cX3_leastBehind 13 = .ok (.invokevirtual 61, 3) := by decide +kernel
theorem dX3_leastBehind_16 : decode cX3_leastBehind 16 = .ok (.ifCond .eq 7, 3) := by decide +kernel
theorem dX3_leastBehind_19 : decode cX3_leastBehind 19 = .ok (.iload_n 3, 1) := by decide +kernel
theorem dX3_leastBehind_20 : decode cX3_leastBehind 20 = .ok (.goto 5, 3) := by decide +kernel
theorem dX3_leastBehind_23 : decode cX3_leastBehind 23 = .ok (.bipush 6, 2) := by decide +kernel
theorem dX3_leastBehind_25 : decode cX3_leastBehind 25 = .ok (.iaload, 1) := by decide +kernel
theorem dX3_leastBehind_26 : decode cX3_leastBehind 26 = .ok (.ireturn, 1) := by decide +kernel
theorem dX3_letterBehind_0 : decode cX3_letterBehind 0 = .ok (.iload_n 1, 1) := by decide +kernel
theorem dX3_letterBehind_1 : decode cX3_letterBehind 1 = .ok (.invokestatic 92, 3) := by decide +kernel
theorem dX3_letterBehind_4 : decode cX3_letterBehind 4 = .ok (.istore_n 3, 1) := by decide +kernel
theorem dX3_letterBehind_5 : decode cX3_letterBehind 5 = .ok (.iload_n 1, 1) := by decide +kernel
theorem dX3_letterBehind_6 : decode cX3_letterBehind 6 = .ok (.invokestatic 95, 3) := by decide +kernel
theorem dX3_letterBehind_9 : decode cX3_letterBehind 9 = .ok (.istore 4, 2) := by decide +kernel
theorem dX3_letterBehind_11 : decode cX3_letterBehind 11 = .ok (.iload 4, 2) := by decide +kernel
theorem dX3_letterBehind_13 : decode cX3_letterBehind 13 = .ok (.ifCond .eq 17, 3) := by decide +kernel
theorem dX3_letterBehind_16 : decode cX3_letterBehind 16 = .ok (.aload_n 0, 1) := by decide +kernel
theorem dX3_letterBehind_17 : decode cX3_letterBehind 17 = .ok (.iload_n 3, 1) := by decide +kernel
theorem dX3_letterBehind_18 : decode cX3_letterBehind 18 = .ok (.invokevirtual 86, 3) := by decide +kernel
theorem dX3_letterBehind_21 : decode cX3_letterBehind 21 = .ok (.ifCond .eq 9, 3) := by decide +kernel
theorem dX3_letterBehind_24 : decode cX3_letterBehind 24 = .ok (.iconst 1, 1) := by decide +kernel
theorem dX3_letterBehind_25 : decode cX3_letterBehind 25 = .ok (.iload_n 2, 1) := by decide +kernel
theorem dX3_letterBehind_26 : decode cX3_letterBehind 26 = .ok (.isub, 1) := by decide +kernel
theorem dX3_letterBehind_27 : decode cX3_letterBehind 27 = .ok (.goto 4, 3) := by decide +kernel
theorem dX3_letterBehind_30 : decode cX3_letterBehind 30 = .ok (.iload_n 2, 1) := by decide +kernel
theorem dX3_letterBehind_31 : decode cX3_letterBehind 31 = .ok (.istore 5, 2) := by decide +kernel
theorem dX3_letterBehind_33 : decode cX3_letterBehind 33 = .ok (.aload_n 0, 1) := by decide +kernel
theorem dX3_letterBehind_34 : decode cX3_letterBehind 34 = .ok (.iload_n 3, 1) := by decide +kernel
theorem dX3_letterBehind_35 : decode cX3_letterBehind 35 = .ok (.iload 5, 2) := by decide +kernel
theorem dX3_letterBehind_37 : decode cX3_letterBehind 37 = .ok (.invokevirtual 71, 3) := by decide +kernel
theorem dX3_letterBehind_40 : decode cX3_letterBehind 40 = .ok (.istore 6, 2) := by decide +kernel
theorem dX3_letterBehind_42 : decode cX3_letterBehind 42 = .ok (.iload 6, 2) := by decide +kernel
theorem dX3_letterBehind_44 : decode cX3_letterBehind 44 = .ok (.iconst (-1), 1) := by decide +kernel
theorem dX3_letterBehind_45 : decode cX3_letterBehind 45 = .ok (.if_icmp .ne 7, 3) := by decide +kernel
theorem dX3_letterBehind_48 : decode cX3_letterBehind 48 = .ok (.iconst (-1), 1) := by decide +kernel
theorem dX3_letterBehind_49 : decode cX3_letterBehind 49 = .ok (.goto 10, 3) := by decide +kernel
theorem dX3_letterBehind_52 : decode cX3_letterBehind 52 = .ok (.iload 6, 2) := by decide +kernel
theorem dX3_letterBehind_54 : decode cX3_letterBehind 54 = .ok (.iload 4, 2) := by decide +kernel
theorem dX3_letterBehind_56 : decode cX3_letterBehind 56 = .ok (.invokestatic 98, 3) := by decide +kernel
theorem dX3_letterBehind_59 : decode cX3_letterBehind 59 = .ok (.ireturn, 1) := by decide +kernel
theorem dX3_flipsFirstSign_0 : decode cX3_flipsFirstSign 0 = .ok (.iconst 0, 1) := by decide +kernel
theorem dX3_flipsFirstSign_1 : decode cX3_flipsFirstSign 1 = .ok (.istore_n 2, 1) := by decide +kernel
theorem dX3_flipsFirstSign_2 : decode cX3_flipsFirstSign 2 = .ok (.iconst 0, 1) := by decide +kernel
theorem dX3_flipsFirstSign_3 : decode cX3_flipsFirstSign 3 = .ok (.istore_n 3, 1) := by decide +kernel
theorem dX3_flipsFirstSign_4 : decode cX3_flipsFirstSign 4 = .ok (.iload_n 3, 1) := by decide +kernel
theorem dX3_flipsFirstSign_5 : decode cX3_flipsFirstSign 5 = .ok (.aload_n 1, 1) := by decide +kernel
theorem dX3_flipsFirstSign_6 : decode cX3_flipsFirstSign 6 = .ok (.invokevirtual 102, 3) := by decide +kernel
theorem dX3_flipsFirstSign_9 : decode cX3_flipsFirstSign 9 = .ok (.if_icmp .ge 34, 3) := by decide +kernel
theorem dX3_flipsFirstSign_12 : decode cX3_flipsFirstSign 12 = .ok (.aload_n 0, 1) := by decide +kernel
theorem dX3_flipsFirstSign_13 : decode cX3_flipsFirstSign 13 = .ok (.aload_n 1, 1) := by decide +kernel
theorem dX3_flipsFirstSign_14 : decode cX3_flipsFirstSign 14 = .ok (.iload_n 3, 1) := by decide +kernel
theorem dX3_flipsFirstSign_15 : decode cX3_flipsFirstSign 15 = .ok (.invokevirtual 106, 3) := by decide +kernel
theorem dX3_flipsFirstSign_18 : decode cX3_flipsFirstSign 18 = .ok (.invokestatic 92, 3) := by decide +kernel
theorem dX3_flipsFirstSign_21 : decode cX3_flipsFirstSign 21 = .ok (.invokevirtual 86, 3) := by decide +kernel
theorem dX3_flipsFirstSign_24 : decode cX3_flipsFirstSign 24 = .ok (.ifCond .eq 13, 3) := by decide +kernel
theorem dX3_flipsFirstSign_27 : decode cX3_flipsFirstSign 27 = .ok (.iload_n 2, 1) := by decide +kernel
theorem dX3_flipsFirstSign_28 : decode cX3_flipsFirstSign 28 = .ok (.ifCond .ne 7, 3) := by decide +kernel
theorem dX3_flipsFirstSign_31 : decode cX3_flipsFirstSign 31 = .ok (.iconst 1, 1) := by decide +kernel
theorem dX3_flipsFirstSign_32 : decode cX3_flipsFirstSign 32 = .ok (.goto 4, 3) := by decide +kernel
theorem dX3_flipsFirstSign_35 : decode cX3_flipsFirstSign 35 = .ok (.iconst 0, 1) := by decide +kernel
theorem dX3_flipsFirstSign_36 : decode cX3_flipsFirstSign 36 = .ok (.istore_n 2, 1) := by decide +kernel
theorem dX3_flipsFirstSign_37 : decode cX3_flipsFirstSign 37 = .ok (.iinc 3 1, 3) := by decide +kernel
theorem dX3_flipsFirstSign_40 : decode cX3_flipsFirstSign 40 = .ok (.goto (-36), 3) := by decide +kernel
theorem dX3_flipsFirstSign_43 : decode cX3_flipsFirstSign 43 = .ok (.iload_n 2, 1) := by decide +kernel
theorem dX3_flipsFirstSign_44 : decode cX3_flipsFirstSign 44 = .ok (.ireturn, 1) := by decide +kernel
theorem dX3_putSection_0 : decode cX3_putSection 0 = .ok (.iload_n 2, 1) := by decide +kernel
theorem dX3_putSection_1 : decode cX3_putSection 1 = .ok (.istore 4, 2) := by decide +kernel
theorem dX3_putSection_3 : decode cX3_putSection 3 = .ok (.aload_n 3, 1) := by decide +kernel
theorem dX3_putSection_4 : decode cX3_putSection 4 = .ok (.invokevirtual 109, 3) := by decide +kernel
theorem dX3_putSection_7 : decode cX3_putSection 7 = .ok (.iconst 0, 1) := by decide +kernel
theorem dX3_putSection_8 : decode cX3_putSection 8 = .ok (.istore 5, 2) := by decide +kernel
theorem dX3_putSection_10 : decode cX3_putSection 10 = .ok (.iload 5, 2) := by decide +kernel
theorem dX3_putSection_12 : decode cX3_putSection 12 = .ok (.aload_n 1, 1) := by decide +kernel
theorem dX3_putSection_13 : decode cX3_putSection 13 = .ok (.invokevirtual 102, 3) := by decide +kernel
theorem dX3_putSection_16 : decode cX3_putSection 16 = .ok (.if_icmp .ge 62, 3) := by decide +kernel
theorem dX3_putSection_19 : decode cX3_putSection 19 = .ok (.aload_n 1, 1) := by decide +kernel
theorem dX3_putSection_20 : decode cX3_putSection 20 = .ok (.iload 5, 2) := by decide +kernel
theorem dX3_putSection_22 : decode cX3_putSection 22 = .ok (.invokevirtual 106, 3) := by decide +kernel
theorem dX3_putSection_25 : decode cX3_putSection 25 = .ok (.istore 6, 2) := by decide +kernel
theorem dX3_putSection_27 : decode cX3_putSection 27 = .ok (.aload_n 0, 1) := by decide +kernel
theorem dX3_putSection_28 : decode cX3_putSection 28 = .ok (.iload 6, 2) := by decide +kernel
theorem dX3_putSection_30 : decode cX3_putSection 30 = .ok (.iload 4, 2) := by decide +kernel
theorem dX3_putSection_32 : decode cX3_putSection 32 = .ok (.invokevirtual 112, 3) := by decide +kernel
theorem dX3_putSection_35 : decode cX3_putSection 35 = .ok (.istore 7, 2) := by decide +kernel
theorem dX3_putSection_37 : decode cX3_putSection 37 = .ok (.iload 7, 2) := by decide +kernel
theorem dX3_putSection_39 : decode cX3_putSection 39 = .ok (.iconst (-1), 1) := by decide +kernel
theorem dX3_putSection_40 : decode cX3_putSection 40 = .ok (.if_icmp .eq 9, 3) := by decide +kernel
theorem dX3_putSection_43 : decode cX3_putSection 43 = .ok (.aload_n 3, 1) := by decide +kernel
theorem dX3_putSection_44 : decode cX3_putSection 44 = .ok (.iload 7, 2) := by decide +kernel
theorem dX3_putSection_46 : decode cX3_putSection 46 = .ok (.invokevirtual 115, 3) := by decide +kernel
theorem dX3_putSection_49 : decode cX3_putSection 49 = .ok (.aload_n 0, 1) := by decide +kernel
theorem dX3_putSection_50 : decode cX3_putSection 50 = .ok (.iload 6, 2) := by decide +kernel
theorem dX3_putSection_52 : decode cX3_putSection 52 = .ok (.invokestatic 92, 3) := by decide +kernel
theorem dX3_putSection_55 : decode cX3_putSection 55 = .ok (.invokevirtual 86, 3) := by decide +kernel
theorem dX3_putSection_58 : decode cX3_putSection 58 = .ok (.ifCond .eq 10, 3) := by decide +kernel
theorem dX3_putSection_61 : decode cX3_putSection 61 = .ok (.iconst 1, 1) := by decide +kernel
theorem dX3_putSection_62 : decode cX3_putSection 62 = .ok (.iload 4, 2) := by decide +kernel
theorem dX3_putSection_64 : decode cX3_putSection 64 = .ok (.isub, 1) := by decide +kernel
theorem dX3_putSection_65 : decode cX3_putSection 65 = .ok (.goto 5, 3) := by decide +kernel
theorem dX3_putSection_68 : decode cX3_putSection 68 = .ok (.iload 4, 2) := by decide +kernel
theorem dX3_putSection_70 : decode cX3_putSection 70 = .ok (.istore 4, 2) := by decide +kernel
theorem dX3_putSection_72 : decode cX3_putSection 72 = .ok (.iinc 5 1, 3) := by decide +kernel
theorem dX3_putSection_75 : decode cX3_putSection 75 = .ok (.goto (-65), 3) := by decide +kernel
theorem dX3_putSection_78 : decode cX3_putSection 78 = .ok (.return_, 1) := by decide +kernel
theorem dX3_rowAfterWord_0 : decode cX3_rowAfterWord 0 = .ok (.iload_n 2, 1) := by decide +kernel
theorem dX3_rowAfterWord_1 : decode cX3_rowAfterWord 1 = .ok (.istore 4, 2) := by decide +kernel
theorem dX3_rowAfterWord_3 : decode cX3_rowAfterWord 3 = .ok (.iconst 0, 1) := by decide +kernel
theorem dX3_rowAfterWord_4 : decode cX3_rowAfterWord 4 = .ok (.istore 5, 2) := by decide +kernel
theorem dX3_rowAfterWord_6 : decode cX3_rowAfterWord 6 = .ok (.iload 5, 2) := by decide +kernel
theorem dX3_rowAfterWord_8 : decode cX3_rowAfterWord 8 = .ok (.aload_n 1, 1) := by decide +kernel
theorem dX3_rowAfterWord_9 : decode cX3_rowAfterWord 9 = .ok (.invokevirtual 102, 3) := by decide +kernel
theorem dX3_rowAfterWord_12 : decode cX3_rowAfterWord 12 = .ok (.if_icmp .ge 24, 3) := by decide +kernel
theorem dX3_rowAfterWord_15 : decode cX3_rowAfterWord 15 = .ok (.aload_n 0, 1) := by decide +kernel
theorem dX3_rowAfterWord_16 : decode cX3_rowAfterWord 16 = .ok (.aload_n 1, 1) := by decide +kernel
theorem dX3_rowAfterWord_17 : decode cX3_rowAfterWord 17 = .ok (.iload 5, 2) := by decide +kernel
theorem dX3_rowAfterWord_19 : decode cX3_rowAfterWord 19 = .ok (.invokevirtual 106, 3) := by decide +kernel
theorem dX3_rowAfterWord_22 : decode cX3_rowAfterWord 22 = .ok (.iload 4, 2) := by decide +kernel
theorem dX3_rowAfterWord_24 : decode cX3_rowAfterWord 24 = .ok (.iload_n 3, 1) := by decide +kernel
theorem dX3_rowAfterWord_25 : decode cX3_rowAfterWord 25 = .ok (.invokevirtual 119, 3) := by decide +kernel
theorem dX3_rowAfterWord_28 : decode cX3_rowAfterWord 28 = .ok (.istore 4, 2) := by decide +kernel
theorem dX3_rowAfterWord_30 : decode cX3_rowAfterWord 30 = .ok (.iinc 5 1, 3) := by decide +kernel
theorem dX3_rowAfterWord_33 : decode cX3_rowAfterWord 33 = .ok (.goto (-27), 3) := by decide +kernel
theorem dX3_rowAfterWord_36 : decode cX3_rowAfterWord 36 = .ok (.iload 4, 2) := by decide +kernel
theorem dX3_rowAfterWord_38 : decode cX3_rowAfterWord 38 = .ok (.ireturn, 1) := by decide +kernel
theorem dX3_rowAfterLetter_0 : decode cX3_rowAfterLetter 0 = .ok (.iload_n 2, 1) := by decide +kernel
theorem dX3_rowAfterLetter_1 : decode cX3_rowAfterLetter 1 = .ok (.istore 4, 2) := by decide +kernel
theorem dX3_rowAfterLetter_3 : decode cX3_rowAfterLetter 3 = .ok (.iload_n 1, 1) := by decide +kernel
theorem dX3_rowAfterLetter_4 : decode cX3_rowAfterLetter 4 = .ok (.istore 5, 2) := by decide +kernel
theorem dX3_rowAfterLetter_6 : decode cX3_rowAfterLetter 6 = .ok (.iload_n 3, 1) := by decide +kernel
theorem dX3_rowAfterLetter_7 : decode cX3_rowAfterLetter 7 = .ok (.iconst 1, 1) := by decide +kernel
theorem dX3_rowAfterLetter_8 : decode cX3_rowAfterLetter 8 = .ok (.isub, 1) := by decide +kernel
theorem dX3_rowAfterLetter_9 : decode cX3_rowAfterLetter 9 = .ok (.istore 6, 2) := by decide +kernel
theorem dX3_rowAfterLetter_11 : decode cX3_rowAfterLetter 11 = .ok (.iload 6, 2) := by decide +kernel
theorem dX3_rowAfterLetter_13 : decode cX3_rowAfterLetter 13 = .ok (.ifCond .lt 59, 3) := by decide +kernel
theorem dX3_rowAfterLetter_16 : decode cX3_rowAfterLetter 16 = .ok (.iload 5, 2) := by decide +kernel
theorem dX3_rowAfterLetter_18 : decode cX3_rowAfterLetter 18 = .ok (.iconst (-1), 1) := by decide +kernel
theorem dX3_rowAfterLetter_19 : decode cX3_rowAfterLetter 19 = .ok (.if_icmp .eq 53, 3) := by decide +kernel
theorem dX3_rowAfterLetter_22 : decode cX3_rowAfterLetter 22 = .ok (.iload 4, 2) := by decide +kernel
theorem dX3_rowAfterLetter_24 : decode cX3_rowAfterLetter 24 = .ok (.iload 6, 2) := by decide +kernel
theorem dX3_rowAfterLetter_26 : decode cX3_rowAfterLetter 26 = .ok (.ishr, 1) := by decide +kernel
theorem dX3_rowAfterLetter_27 : decode cX3_rowAfterLetter 27 = .ok (.iconst 1, 1) := by decide +kernel
theorem dX3_rowAfterLetter_28 : decode cX3_rowAfterLetter 28 = .ok (.iand, 1) := by decide +kernel
theorem dX3_rowAfterLetter_29 : decode cX3_rowAfterLetter 29 = .ok (.istore 7, 2) := by decide +kernel
theorem dX3_rowAfterLetter_31 : decode cX3_rowAfterLetter 31 = .ok (.iload 4, 2) := by decide +kernel
theorem dX3_rowAfterLetter_33 : decode cX3_rowAfterLetter 33 = .ok (.aload_n 0, 1) := by decide +kernel
theorem dX3_rowAfterLetter_34 : decode cX3_rowAfterLetter 34 = .ok (.iload 5, 2) := by decide +kernel
theorem dX3_rowAfterLetter_36 : decode cX3_rowAfterLetter 36 = .ok (.invokestatic 92, 3) := by decide +kernel
theorem dX3_rowAfterLetter_39 : decode cX3_rowAfterLetter 39 = .ok (.invokevirtual 86, 3) := by decide +kernel
theorem dX3_rowAfterLetter_42 : decode cX3_rowAfterLetter 42 = .ok (.ifCond .eq 10, 3) := by decide +kernel
theorem dX3_rowAfterLetter_45 : decode cX3_rowAfterLetter 45 = .ok (.iconst 1, 1) := by decide +kernel
theorem dX3_rowAfterLetter_46 : decode cX3_rowAfterLetter 46 = .ok (.iload 6, 2) := by decide +kernel
theorem dX3_rowAfterLetter_48 : decode cX3_rowAfterLetter 48 = .ok (.ishl, 1) := by decide +kernel
theorem dX3_rowAfterLetter_49 : decode cX3_rowAfterLetter 49 = .ok (.goto 4, 3) := by decide +kernel
theorem dX3_rowAfterLetter_52 : decode cX3_rowAfterLetter 52 = .ok (.iconst 0, 1) := by decide +kernel
theorem dX3_rowAfterLetter_53 : decode cX3_rowAfterLetter 53 = .ok (.ixor, 1) := by decide +kernel
theorem dX3_rowAfterLetter_54 : decode cX3_rowAfterLetter 54 = .ok (.istore 4, 2) := by decide +kernel
theorem dX3_rowAfterLetter_56 : decode cX3_rowAfterLetter 56 = .ok (.aload_n 0, 1) := by decide +kernel
theorem dX3_rowAfterLetter_57 : decode cX3_rowAfterLetter 57 = .ok (.iload 5, 2) := by decide +kernel
theorem dX3_rowAfterLetter_59 : decode cX3_rowAfterLetter 59 = .ok (.iload 7, 2) := by decide +kernel
theorem dX3_rowAfterLetter_61 : decode cX3_rowAfterLetter 61 = .ok (.invokevirtual 112, 3) := by decide +kernel
theorem dX3_rowAfterLetter_64 : decode cX3_rowAfterLetter 64 = .ok (.istore 5, 2) := by decide +kernel
theorem dX3_rowAfterLetter_66 : decode cX3_rowAfterLetter 66 = .ok (.iinc 6 (-1), 3) := by decide +kernel
theorem dX3_rowAfterLetter_69 : decode cX3_rowAfterLetter 69 = .ok (.goto (-58), 3) := by decide +kernel
theorem dX3_rowAfterLetter_72 : decode cX3_rowAfterLetter 72 = .ok (.iload 4, 2) := by decide +kernel
theorem dX3_rowAfterLetter_74 : decode cX3_rowAfterLetter 74 = .ok (.ireturn, 1) := by decide +kernel
end
section
theorem dX6_init_0 : decode cX6_init 0 = .ok (.aload_n 0, 1) := by decide +kernel
theorem dX6_init_1 : decode cX6_init 1 = .ok (.invokespecial 3, 3) := by decide +kernel
theorem dX6_init_4 : decode cX6_init 4 = .ok (.aload_n 0, 1) := by decide +kernel
theorem dX6_init_5 : decode cX6_init 5 = .ok (.new 9, 3) := by decide +kernel
theorem dX6_init_8 : decode cX6_init 8 = .ok (.dup, 1) := by decide +kernel
theorem dX6_init_9 : decode cX6_init 9 = .ok (.invokespecial 11, 3) := by decide +kernel
theorem dX6_init_12 : decode cX6_init 12 = .ok (.putfield 12, 3) := by decide +kernel
theorem dX6_init_15 : decode cX6_init 15 = .ok (.aload_n 0, 1) := by decide +kernel
theorem dX6_init_16 : decode cX6_init 16 = .ok (.new 16, 3) := by decide +kernel
theorem dX6_init_19 : decode cX6_init 19 = .ok (.dup, 1) := by decide +kernel
theorem dX6_init_20 : decode cX6_init 20 = .ok (.invokespecial 18, 3) := by decide +kernel
theorem dX6_init_23 : decode cX6_init 23 = .ok (.putfield 19, 3) := by decide +kernel
theorem dX6_init_26 : decode cX6_init 26 = .ok (.aload_n 0, 1) := by decide +kernel
theorem dX6_init_27 : decode cX6_init 27 = .ok (.new 16, 3) := by decide +kernel
theorem dX6_init_30 : decode cX6_init 30 = .ok (.dup, 1) := by decide +kernel
theorem dX6_init_31 : decode cX6_init 31 = .ok (.invokespecial 18, 3) := by decide +kernel
theorem dX6_init_34 : decode cX6_init 34 = .ok (.putfield 23, 3) := by decide +kernel
theorem dX6_init_37 : decode cX6_init 37 = .ok (.aload_n 0, 1) := by decide +kernel
theorem dX6_init_38 : decode cX6_init 38 = .ok (.iconst 3, 1) := by decide +kernel
theorem dX6_init_39 : decode cX6_init 39 = .ok (.anewarray 26, 3) := by decide +kernel
theorem dX6_init_42 : decode cX6_init 42 = .ok (.putfield 28, 3) := by decide +kernel
theorem dX6_init_45 : decode cX6_init 45 = .ok (.aload_n 0, 1) := by decide +kernel
theorem dX6_init_46 : decode cX6_init 46 = .ok (.iconst 3, 1) := by decide +kernel
theorem dX6_init_47 : decode cX6_init 47 = .ok (.anewarray 26, 3) := by decide +kernel
theorem dX6_init_50 : decode cX6_init 50 = .ok (.putfield 32, 3) := by decide +kernel
theorem dX6_init_53 : decode cX6_init 53 = .ok (.iconst 0, 1) := by decide +kernel
theorem dX6_init_54 : decode cX6_init 54 = .ok (.istore_n 1, 1) := by decide +kernel
theorem dX6_init_55 : decode cX6_init 55 = .ok (.iload_n 1, 1) := by decide +kernel
theorem dX6_init_56 : decode cX6_init 56 = .ok (.iconst 3, 1) := by decide +kernel
theorem dX6_init_57 : decode cX6_init 57 = .ok (.if_icmp .ge 39, 3) := by decide +kernel
theorem dX6_init_60 : decode cX6_init 60 = .ok (.aload_n 0, 1) := by decide +kernel
theorem dX6_init_61 : decode cX6_init 61 = .ok (.getfield 28, 3) := by decide +kernel
theorem dX6_init_64 : decode cX6_init 64 = .ok (.iload_n 1, 1) := by decide +kernel
theorem dX6_init_65 : decode cX6_init 65 = .ok (.new 26, 3) := by decide +kernel
theorem dX6_init_68 : decode cX6_init 68 = .ok (.dup, 1) := by decide +kernel
theorem dX6_init_69 : decode cX6_init 69 = .ok (.bipush 16, 2) := by decide +kernel
theorem dX6_init_71 : decode cX6_init 71 = .ok (.invokespecial 35, 3) := by decide +kernel
theorem dX6_init_74 : decode cX6_init 74 = .ok (.aastore, 1) := by decide +kernel
theorem dX6_init_75 : decode cX6_init 75 = .ok (.aload_n 0, 1) := by decide +kernel
theorem dX6_init_76 : decode cX6_init 76 = .ok (.getfield 32, 3) := by decide +kernel
theorem dX6_init_79 : decode cX6_init 79 = .ok (.iload_n 1, 1) := by decide +kernel
theorem dX6_init_80 : decode cX6_init 80 = .ok (.new 26, 3) := by decide +kernel
theorem dX6_init_83 : decode cX6_init 83 = .ok (.dup, 1) := by decide +kernel
theorem dX6_init_84 : decode cX6_init 84 = .ok (.bipush 16, 2) := by decide +kernel
theorem dX6_init_86 : decode cX6_init 86 = .ok (.invokespecial 35, 3) := by decide +kernel
theorem dX6_init_89 : decode cX6_init 89 = .ok (.aastore, 1) := by decide +kernel
theorem dX6_init_90 : decode cX6_init 90 = .ok (.iinc 1 1, 3) := by decide +kernel
theorem dX6_init_93 : decode cX6_init 93 = .ok (.goto (-38), 3) := by decide +kernel
theorem dX6_init_96 : decode cX6_init 96 = .ok (.aload_n 0, 1) := by decide +kernel
theorem dX6_init_97 : decode cX6_init 97 = .ok (.new 38, 3) := by decide +kernel
theorem dX6_init_100 : decode cX6_init 100 = .ok (.dup, 1) := by decide +kernel
theorem dX6_init_101 : decode cX6_init 101 = .ok (.invokespecial 40, 3) := by decide +kernel
theorem dX6_init_104 : decode cX6_init 104 = .ok (.putfield 41, 3) := by decide +kernel
theorem dX6_init_107 : decode cX6_init 107 = .ok (.aload_n 0, 1) := by decide +kernel
theorem dX6_init_108 : decode cX6_init 108 = .ok (.new 38, 3) := by decide +kernel
theorem dX6_init_111 : decode cX6_init 111 = .ok (.dup, 1) := by decide +kernel
theorem dX6_init_112 : decode cX6_init 112 = .ok (.invokespecial 40, 3) := by decide +kernel
theorem dX6_init_115 : decode cX6_init 115 = .ok (.putfield 45, 3) := by decide +kernel
theorem dX6_init_118 : decode cX6_init 118 = .ok (.aload_n 0, 1) := by decide +kernel
theorem dX6_init_119 : decode cX6_init 119 = .ok (.new 48, 3) := by decide +kernel
theorem dX6_init_122 : decode cX6_init 122 = .ok (.dup, 1) := by decide +kernel
theorem dX6_init_123 : decode cX6_init 123 = .ok (.invokespecial 50, 3) := by decide +kernel
theorem dX6_init_126 : decode cX6_init 126 = .ok (.putfield 51, 3) := by decide +kernel
theorem dX6_init_129 : decode cX6_init 129 = .ok (.aload_n 0, 1) := by decide +kernel
theorem dX6_init_130 : decode cX6_init 130 = .ok (.new 26, 3) := by decide +kernel
theorem dX6_init_133 : decode cX6_init 133 = .ok (.dup, 1) := by decide +kernel
theorem dX6_init_134 : decode cX6_init 134 = .ok (.sipush 128, 3) := by decide +kernel
theorem dX6_init_137 : decode cX6_init 137 = .ok (.invokespecial 35, 3) := by decide +kernel
theorem dX6_init_140 : decode cX6_init 140 = .ok (.putfield 55, 3) := by decide +kernel
theorem dX6_init_143 : decode cX6_init 143 = .ok (.aload_n 0, 1) := by decide +kernel
theorem dX6_init_144 : decode cX6_init 144 = .ok (.new 59, 3) := by decide +kernel
theorem dX6_init_147 : decode cX6_init 147 = .ok (.dup, 1) := by decide +kernel
theorem dX6_init_148 : decode cX6_init 148 = .ok (.invokespecial 61, 3) := by decide +kernel
theorem dX6_init_151 : decode cX6_init 151 = .ok (.putfield 62, 3) := by decide +kernel
theorem dX6_init_154 : decode cX6_init 154 = .ok (.aload_n 0, 1) := by decide +kernel
theorem dX6_init_155 : decode cX6_init 155 = .ok (.iconst 0, 1) := by decide +kernel
theorem dX6_init_156 : decode cX6_init 156 = .ok (.putfield 66, 3) := by decide +kernel
theorem dX6_init_159 : decode cX6_init 159 = .ok (.aload_n 0, 1) := by decide +kernel
theorem dX6_init_160 : decode cX6_init 160 = .ok (.iconst 0, 1) := by decide +kernel
theorem dX6_init_161 : decode cX6_init 161 = .ok (.putfield 70, 3) := by decide +kernel
theorem dX6_init_164 : decode cX6_init 164 = .ok (.return_, 1) := by decide +kernel
theorem dX6_letter_0 : decode cX6_letter 0 = .ok (.iload_n 1, 1) := by decide +kernel
theorem dX6_letter_1 : decode cX6_letter 1 = .ok (.iconst 1, 1) := by decide +kernel
theorem dX6_letter_2 : decode cX6_letter 2 = .ok (.if_icmp .lt 9, 3) := by decide +kernel
theorem dX6_letter_5 : decode cX6_letter 5 = .ok (.iload_n 1, 1) := by decide +kernel
theorem dX6_letter_6 : decode cX6_letter 6 = .ok (.bipush 126, 2) := by decide +kernel
theorem dX6_letter_8 : decode cX6_letter 8 = .ok (.if_icmp .le 6, 3) := by decide +kernel
theorem dX6_letter_11 : decode cX6_letter 11 = .ok (.bipush (-102), 2) := by decide +kernel
theorem dX6_letter_13 : decode cX6_letter 13 = .ok (.ireturn, 1) := by decide +kernel
theorem dX6_letter_14 : decode cX6_letter 14 = .ok (.aload_n 0, 1) := by decide +kernel
theorem dX6_letter_15 : decode cX6_letter 15 = .ok (.getfield 12, 3) := by decide +kernel
theorem dX6_letter_18 : decode cX6_letter 18 = .ok (.iload_n 1, 1) := by decide +kernel
theorem dX6_letter_19 : decode cX6_letter 19 = .ok (.invokevirtual 74, 3) := by decide +kernel
theorem dX6_letter_22 : decode cX6_letter 22 = .ok (.ifCond .eq 13, 3) := by decide +kernel
theorem dX6_letter_25 : decode cX6_letter 25 = .ok (.aload_n 0, 1) := by decide +kernel
theorem dX6_letter_26 : decode cX6_letter 26 = .ok (.getfield 12, 3) := by decide +kernel
theorem dX6_letter_29 : decode cX6_letter 29 = .ok (.invokevirtual 78, 3) := by decide +kernel
theorem dX6_letter_32 : decode cX6_letter 32 = .ok (.goto 5, 3) := by decide +kernel
theorem dX6_letter_35 : decode cX6_letter 35 = .ok (.bipush (-104), 2) := by decide +kernel
theorem dX6_letter_37 : decode cX6_letter 37 = .ok (.ireturn, 1) := by decide +kernel
theorem dX6_blank_0 : decode cX6_blank 0 = .ok (.aload_n 0, 1) := by decide +kernel
theorem dX6_blank_1 : decode cX6_blank 1 = .ok (.getfield 12, 3) := by decide +kernel
theorem dX6_blank_4 : decode cX6_blank 4 = .ok (.invokevirtual 78, 3) := by decide +kernel
theorem dX6_blank_7 : decode cX6_blank 7 = .ok (.istore_n 1, 1) := by decide +kernel
theorem dX6_blank_8 : decode cX6_blank 8 = .ok (.aload_n 0, 1) := by decide +kernel
theorem dX6_blank_9 : decode cX6_blank 9 = .ok (.getfield 12, 3) := by decide +kernel
theorem dX6_blank_12 : decode cX6_blank 12 = .ok (.invokevirtual 82, 3) := by decide +kernel
theorem dX6_blank_15 : decode cX6_blank 15 = .ok (.iload_n 1, 1) := by decide +kernel
theorem dX6_blank_16 : decode cX6_blank 16 = .ok (.ireturn, 1) := by decide +kernel
theorem dX6_fault_0 : decode cX6_fault 0 = .ok (.aload_n 0, 1) := by decide +kernel
theorem dX6_fault_1 : decode cX6_fault 1 = .ok (.getfield 12, 3) := by decide +kernel
theorem dX6_fault_4 : decode cX6_fault 4 = .ok (.invokevirtual 85, 3) := by decide +kernel
theorem dX6_fault_7 : decode cX6_fault 7 = .ok (.ireturn, 1) := by decide +kernel
theorem dX6_machine_0 : decode cX6_machine 0 = .ok (.aload_n 0, 1) := by decide +kernel
theorem dX6_machine_1 : decode cX6_machine 1 = .ok (.getfield 12, 3) := by decide +kernel
theorem dX6_machine_4 : decode cX6_machine 4 = .ok (.invokevirtual 88, 3) := by decide +kernel
theorem dX6_machine_7 : decode cX6_machine 7 = .ok (.ifCond .ne 6, 3) := by decide +kernel
theorem dX6_machine_10 : decode cX6_machine 10 = .ok (.bipush (-103), 2) := by decide +kernel
theorem dX6_machine_12 : decode cX6_machine 12 = .ok (.ireturn, 1) := by decide +kernel
theorem dX6_machine_13 : decode cX6_machine 13 = .ok (.aload_n 0, 1) := by decide +kernel
theorem dX6_machine_14 : decode cX6_machine 14 = .ok (.getfield 19, 3) := by decide +kernel
theorem dX6_machine_17 : decode cX6_machine 17 = .ok (.aload_n 0, 1) := by decide +kernel
theorem dX6_machine_18 : decode cX6_machine 18 = .ok (.getfield 12, 3) := by decide +kernel
theorem dX6_machine_21 : decode cX6_machine 21 = .ok (.invokevirtual 92, 3) := by decide +kernel
theorem dX6_machine_24 : decode cX6_machine 24 = .ok (.aload_n 0, 1) := by decide +kernel
theorem dX6_machine_25 : decode cX6_machine 25 = .ok (.getfield 12, 3) := by decide +kernel
theorem dX6_machine_28 : decode cX6_machine 28 = .ok (.invokevirtual 82, 3) := by decide +kernel
theorem dX6_machine_31 : decode cX6_machine 31 = .ok (.iconst 0, 1) := by decide +kernel
theorem dX6_machine_32 : decode cX6_machine 32 = .ok (.istore_n 1, 1) := by decide +kernel
theorem dX6_machine_33 : decode cX6_machine 33 = .ok (.iload_n 1, 1) := by decide +kernel
theorem dX6_machine_34 : decode cX6_machine 34 = .ok (.iconst 3, 1) := by decide +kernel
theorem dX6_machine_35 : decode cX6_machine 35 = .ok (.if_icmp .ge 18, 3) := by decide +kernel
theorem dX6_machine_38 : decode cX6_machine 38 = .ok (.aload_n 0, 1) := by decide +kernel
theorem dX6_machine_39 : decode cX6_machine 39 = .ok (.getfield 28, 3) := by decide +kernel
theorem dX6_machine_42 : decode cX6_machine 42 = .ok (.iload_n 1, 1) := by decide +kernel
theorem dX6_machine_43 : decode cX6_machine 43 = .ok (.aaload, 1) := by decide +kernel
theorem dX6_machine_44 : decode cX6_machine 44 = .ok (.invokevirtual 96, 3) := by decide +kernel
theorem dX6_machine_47 : decode cX6_machine 47 = .ok (.iinc 1 1, 3) := by decide +kernel
theorem dX6_machine_50 : decode cX6_machine 50 = .ok (.goto (-17), 3) := by decide +kernel
theorem dX6_machine_53 : decode cX6_machine 53 = .ok (.aload_n 0, 1) := by decide +kernel
theorem dX6_machine_54 : decode cX6_machine 54 = .ok (.getfield 41, 3) := by decide +kernel
theorem dX6_machine_57 : decode cX6_machine 57 = .ok (.invokevirtual 97, 3) := by decide +kernel
theorem dX6_machine_60 : decode cX6_machine 60 = .ok (.aload_n 0, 1) := by decide +kernel
theorem dX6_machine_61 : decode cX6_machine 61 = .ok (.iconst 0, 1) := by decide +kernel
theorem dX6_machine_62 : decode cX6_machine 62 = .ok (.putfield 66, 3) := by decide +kernel
theorem dX6_machine_65 : decode cX6_machine 65 = .ok (.aload_n 0, 1) := by decide +kernel
theorem dX6_machine_66 : decode cX6_machine 66 = .ok (.dup, 1) := by decide +kernel
theorem dX6_machine_67 : decode cX6_machine 67 = .ok (.getfield 70, 3) := by decide +kernel
theorem dX6_machine_70 : decode cX6_machine 70 = .ok (.iconst 1, 1) := by decide +kernel
theorem dX6_machine_71 : decode cX6_machine 71 = .ok (.iadd, 1) := by decide +kernel
theorem dX6_machine_72 : decode cX6_machine 72 = .ok (.putfield 70, 3) := by decide +kernel
theorem dX6_machine_75 : decode cX6_machine 75 = .ok (.aload_n 0, 1) := by decide +kernel
theorem dX6_machine_76 : decode cX6_machine 76 = .ok (.getfield 19, 3) := by decide +kernel
theorem dX6_machine_79 : decode cX6_machine 79 = .ok (.invokevirtual 98, 3) := by decide +kernel
theorem dX6_machine_82 : decode cX6_machine 82 = .ok (.ireturn, 1) := by decide +kernel
theorem dX6_word_0 : decode cX6_word 0 = .ok (.aload_n 0, 1) := by decide +kernel
theorem dX6_word_1 : decode cX6_word 1 = .ok (.iload_n 1, 1) := by decide +kernel
theorem dX6_word_2 : decode cX6_word 2 = .ok (.invokevirtual 99, 3) := by decide +kernel
theorem dX6_word_5 : decode cX6_word 5 = .ok (.ifCond .ne 6, 3) := by decide +kernel
theorem dX6_word_8 : decode cX6_word 8 = .ok (.bipush (-101), 2) := by decide +kernel
theorem dX6_word_10 : decode cX6_word 10 = .ok (.ireturn, 1) := by decide +kernel
theorem dX6_word_11 : decode cX6_word 11 = .ok (.aload_n 0, 1) := by decide +kernel
theorem dX6_word_12 : decode cX6_word 12 = .ok (.invokevirtual 102, 3) := by decide +kernel
theorem dX6_word_15 : decode cX6_word 15 = .ok (.ifCond .ne 6, 3) := by decide +kernel
theorem dX6_word_18 : decode cX6_word 18 = .ok (.bipush (-103), 2) := by decide +kernel
theorem dX6_word_20 : decode cX6_word 20 = .ok (.ireturn, 1) := by decide +kernel
theorem dX6_word_21 : decode cX6_word 21 = .ok (.aload_n 0, 1) := by decide +kernel
theorem dX6_word_22 : decode cX6_word 22 = .ok (.getfield 28, 3) := by decide +kernel
theorem dX6_word_25 : decode cX6_word 25 = .ok (.iload_n 1, 1) := by decide +kernel
theorem dX6_word_26 : decode cX6_word 26 = .ok (.aaload, 1) := by decide +kernel
theorem dX6_word_27 : decode cX6_word 27 = .ok (.astore_n 2, 1) := by decide +kernel
theorem dX6_word_28 : decode cX6_word 28 = .ok (.aload_n 2, 1) := by decide +kernel
theorem dX6_word_29 : decode cX6_word 29 = .ok (.invokevirtual 96, 3) := by decide +kernel
theorem dX6_word_32 : decode cX6_word 32 = .ok (.iconst 0, 1) := by decide +kernel
theorem dX6_word_33 : decode cX6_word 33 = .ok (.istore_n 3, 1) := by decide +kernel
theorem dX6_word_34 : decode cX6_word 34 = .ok (.iload_n 3, 1) := by decide +kernel
theorem dX6_word_35 : decode cX6_word 35 = .ok (.aload_n 0, 1) := by decide +kernel
theorem dX6_word_36 : decode cX6_word 36 = .ok (.getfield 12, 3) := by decide +kernel
theorem dX6_word_39 : decode cX6_word 39 = .ok (.invokevirtual 78, 3) := by decide +kernel
theorem dX6_word_42 : decode cX6_word 42 = .ok (.if_icmp .ge 24, 3) := by decide +kernel
theorem dX6_word_45 : decode cX6_word 45 = .ok (.aload_n 2, 1) := by decide +kernel
theorem dX6_word_46 : decode cX6_word 46 = .ok (.aload_n 0, 1) := by decide +kernel
theorem dX6_word_47 : decode cX6_word 47 = .ok (.getfield 12, 3) := by decide +kernel
theorem dX6_word_50 : decode cX6_word 50 = .ok (.iload_n 3, 1) := by decide +kernel
theorem dX6_word_51 : decode cX6_word 51 = .ok (.invokevirtual 105, 3) := by decide +kernel
theorem dX6_word_54 : decode cX6_word 54 = .ok (.invokestatic 109, 3) := by decide +kernel
theorem dX6_word_57 : decode cX6_word 57 = .ok (.invokevirtual 112, 3) := by decide +kernel
theorem dX6_word_60 : decode cX6_word 60 = .ok (.iinc 3 1, 3) := by decide +kernel
theorem dX6_word_63 : decode cX6_word 63 = .ok (.goto (-29), 3) := by decide +kernel
theorem dX6_word_66 : decode cX6_word 66 = .ok (.aload_n 0, 1) := by decide +kernel
theorem dX6_word_67 : decode cX6_word 67 = .ok (.getfield 12, 3) := by decide +kernel
theorem dX6_word_70 : decode cX6_word 70 = .ok (.invokevirtual 82, 3) := by decide +kernel
theorem dX6_word_73 : decode cX6_word 73 = .ok (.aload_n 2, 1) := by decide +kernel
theorem dX6_word_74 : decode cX6_word 74 = .ok (.invokevirtual 115, 3) := by decide +kernel
theorem dX6_word_77 : decode cX6_word 77 = .ok (.ireturn, 1) := by decide +kernel
theorem dX6_state_0 : decode cX6_state 0 = .ok (.aload_n 0, 1) := by decide +kernel
theorem dX6_state_1 : decode cX6_state 1 = .ok (.getfield 19, 3) := by decide +kernel
theorem dX6_state_4 : decode cX6_state 4 = .ok (.iload_n 1, 1) := by decide +kernel
theorem dX6_state_5 : decode cX6_state 5 = .ok (.invokevirtual 116, 3) := by decide +kernel
theorem dX6_state_8 : decode cX6_state 8 = .ok (.ifCond .ne 6, 3) := by decide +kernel
theorem dX6_state_11 : decode cX6_state 11 = .ok (.bipush (-101), 2) := by decide +kernel
theorem dX6_state_13 : decode cX6_state 13 = .ok (.ireturn, 1) := by decide +kernel
theorem dX6_state_14 : decode cX6_state 14 = .ok (.iload_n 2, 1) := by decide +kernel
theorem dX6_state_15 : decode cX6_state 15 = .ok (.tableswitch 130 0 7 #[45, 54, 64, 74, 83, 100, 109, 118], 45) := by decide +kernel
theorem dX6_state_60 : decode cX6_state 60 = .ok (.aload_n 0, 1) := by decide +kernel
theorem dX6_state_61 : decode cX6_state 61 = .ok (.getfield 19, 3) := by decide +kernel
theorem dX6_state_64 : decode cX6_state 64 = .ok (.iload_n 1, 1) := by decide +kernel
theorem dX6_state_65 : decode cX6_state 65 = .ok (.invokevirtual 119, 3) := by decide +kernel
theorem dX6_state_68 : decode cX6_state 68 = .ok (.ireturn, 1) := by decide +kernel
theorem dX6_state_69 : decode cX6_state 69 = .ok (.aload_n 0, 1) := by decide +kernel
theorem dX6_state_70 : decode cX6_state 70 = .ok (.getfield 19, 3) := by decide +kernel
theorem dX6_state_73 : decode cX6_state 73 = .ok (.iload_n 1, 1) := by decide +kernel
theorem dX6_state_74 : decode cX6_state 74 = .ok (.iconst 0, 1) := by decide +kernel
theorem dX6_state_75 : decode cX6_state 75 = .ok (.invokevirtual 122, 3) := by decide +kernel
theorem dX6_state_78 : decode cX6_state 78 = .ok (.ireturn, 1) := by decide +kernel
theorem dX6_state_79 : decode cX6_state 79 = .ok (.aload_n 0, 1) := by decide +kernel
theorem dX6_state_80 : decode cX6_state 80 = .ok (.getfield 19, 3) := by decide +kernel
theorem dX6_state_83 : decode cX6_state 83 = .ok (.iload_n 1, 1) := by decide +kernel
theorem dX6_state_84 : decode cX6_state 84 = .ok (.iconst 1, 1) := by decide +kernel
theorem dX6_state_85 : decode cX6_state 85 = .ok (.invokevirtual 122, 3) := by decide +kernel
theorem dX6_state_88 : decode cX6_state 88 = .ok (.ireturn, 1) := by decide +kernel
theorem dX6_state_89 : decode cX6_state 89 = .ok (.aload_n 0, 1) := by decide +kernel
theorem dX6_state_90 : decode cX6_state 90 = .ok (.getfield 19, 3) := by decide +kernel
theorem dX6_state_93 : decode cX6_state 93 = .ok (.iload_n 1, 1) := by decide +kernel
theorem dX6_state_94 : decode cX6_state 94 = .ok (.invokevirtual 126, 3) := by decide +kernel
theorem dX6_state_97 : decode cX6_state 97 = .ok (.ireturn, 1) := by decide +kernel
theorem dX6_state_98 : decode cX6_state 98 = .ok (.aload_n 0, 1) := by decide +kernel
theorem dX6_state_99 : decode cX6_state 99 = .ok (.getfield 19, 3) := by decide +kernel
theorem dX6_state_102 : decode cX6_state 102 = .ok (.iload_n 1, 1) := by decide +kernel
theorem dX6_state_103 : decode cX6_state 103 = .ok (.invokevirtual 129, 3) := by decide +kernel
theorem dX6_state_106 : decode cX6_state 106 = .ok (.ifCond .eq 7, 3) := by decide +kernel
theorem dX6_state_109 : decode cX6_state 109 = .ok (.iconst 1, 1) := by decide +kernel
theorem dX6_state_110 : decode cX6_state 110 = .ok (.goto 4, 3) := by decide +kernel
theorem dX6_state_113 : decode cX6_state 113 = .ok (.iconst 0, 1) := by decide +kernel
theorem dX6_state_114 : decode cX6_state 114 = .ok (.ireturn, 1) := by decide +kernel
theorem dX6_state_115 : decode cX6_state 115 = .ok (.aload_n 0, 1) := by decide +kernel
theorem dX6_state_116 : decode cX6_state 116 = .ok (.getfield 19, 3) := by decide +kernel
theorem dX6_state_119 : decode cX6_state 119 = .ok (.iload_n 1, 1) := by decide +kernel
theorem dX6_state_120 : decode cX6_state 120 = .ok (.invokevirtual 132, 3) := by decide +kernel
theorem dX6_state_123 : decode cX6_state 123 = .ok (.ireturn, 1) := by decide +kernel
theorem dX6_state_124 : decode cX6_state 124 = .ok (.aload_n 0, 1) := by decide +kernel
theorem dX6_state_125 : decode cX6_state 125 = .ok (.getfield 41, 3) := by decide +kernel
theorem dX6_state_128 : decode cX6_state 128 = .ok (.iload_n 1, 1) := by decide +kernel
theorem dX6_state_129 : decode cX6_state 129 = .ok (.invokevirtual 135, 3) := by decide +kernel
theorem dX6_state_132 : decode cX6_state 132 = .ok (.ireturn, 1) := by decide +kernel
theorem dX6_state_133 : decode cX6_state 133 = .ok (.aload_n 0, 1) := by decide +kernel
theorem dX6_state_134 : decode cX6_state 134 = .ok (.getfield 41, 3) := by decide +kernel
theorem dX6_state_137 : decode cX6_state 137 = .ok (.iload_n 1, 1) := by decide +kernel
theorem dX6_state_138 : decode cX6_state 138 = .ok (.invokevirtual 135, 3) := by decide +kernel
theorem dX6_state_141 : decode cX6_state 141 = .ok (.invokestatic 138, 3) := by decide +kernel
theorem dX6_state_144 : decode cX6_state 144 = .ok (.ireturn, 1) := by decide +kernel
theorem dX6_state_145 : decode cX6_state 145 = .ok (.bipush (-102), 2) := by decide +kernel
theorem dX6_state_147 : decode cX6_state 147 = .ok (.ireturn, 1) := by decide +kernel
theorem dX6_as_0 : decode cX6_as 0 = .ok (.aload_n 0, 1) := by decide +kernel
theorem dX6_as_1 : decode cX6_as 1 = .ok (.getfield 19, 3) := by decide +kernel
theorem dX6_as_4 : decode cX6_as 4 = .ok (.iload_n 1, 1) := by decide +kernel
theorem dX6_as_5 : decode cX6_as 5 = .ok (.invokevirtual 116, 3) := by decide +kernel
theorem dX6_as_8 : decode cX6_as 8 = .ok (.ifCond .ne 6, 3) := by decide +kernel
theorem dX6_as_11 : decode cX6_as 11 = .ok (.bipush (-101), 2) := by decide +kernel
theorem dX6_as_13 : decode cX6_as 13 = .ok (.ireturn, 1) := by decide +kernel
theorem dX6_as_14 : decode cX6_as 14 = .ok (.iload_n 2, 1) := by decide +kernel
theorem dX6_as_15 : decode cX6_as 15 = .ok (.invokestatic 141, 3) := by decide +kernel
theorem dX6_as_18 : decode cX6_as 18 = .ok (.ifCond .ne 6, 3) := by decide +kernel
theorem dX6_as_21 : decode cX6_as 21 = .ok (.bipush (-102), 2) := by decide +kernel
theorem dX6_as_23 : decode cX6_as 23 = .ok (.ireturn, 1) := by decide +kernel
theorem dX6_as_24 : decode cX6_as 24 = .ok (.aload_n 0, 1) := by decide +kernel
theorem dX6_as_25 : decode cX6_as 25 = .ok (.getfield 19, 3) := by decide +kernel
theorem dX6_as_28 : decode cX6_as 28 = .ok (.iload_n 1, 1) := by decide +kernel
theorem dX6_as_29 : decode cX6_as 29 = .ok (.invokevirtual 119, 3) := by decide +kernel
theorem dX6_as_32 : decode cX6_as 32 = .ok (.istore_n 3, 1) := by decide +kernel
theorem dX6_as_33 : decode cX6_as 33 = .ok (.iload_n 3, 1) := by decide +kernel
theorem dX6_as_34 : decode cX6_as 34 = .ok (.iload_n 2, 1) := by decide +kernel
theorem dX6_as_35 : decode cX6_as 35 = .ok (.if_icmp .eq 17, 3) := by decide +kernel
theorem dX6_as_38 : decode cX6_as 38 = .ok (.iload_n 2, 1) := by decide +kernel
theorem dX6_as_39 : decode cX6_as 39 = .ok (.ifCond .eq 13, 3) := by decide +kernel
theorem dX6_as_42 : decode cX6_as 42 = .ok (.iload_n 3, 1) := by decide +kernel
theorem dX6_as_43 : decode cX6_as 43 = .ok (.iconst 2, 1) := by decide +kernel
theorem dX6_as_44 : decode cX6_as 44 = .ok (.if_icmp .ne 12, 3) := by decide +kernel
theorem dX6_as_47 : decode cX6_as 47 = .ok (.iload_n 2, 1) := by decide +kernel
theorem dX6_as_48 : decode cX6_as 48 = .ok (.iconst 1, 1) := by decide +kernel
theorem dX6_as_49 : decode cX6_as 49 = .ok (.if_icmp .ne 7, 3) := by decide +kernel
theorem dX6_as_52 : decode cX6_as 52 = .ok (.iconst 1, 1) := by decide +kernel
theorem dX6_as_53 : decode cX6_as 53 = .ok (.goto 4, 3) := by decide +kernel
theorem dX6_as_56 : decode cX6_as 56 = .ok (.iconst 0, 1) := by decide +kernel
theorem dX6_as_57 : decode cX6_as 57 = .ok (.istore 4, 2) := by decide +kernel
theorem dX6_as_59 : decode cX6_as 59 = .ok (.iload 4, 2) := by decide +kernel
theorem dX6_as_61 : decode cX6_as 61 = .ok (.ifCond .eq 7, 3) := by decide +kernel
theorem dX6_as_64 : decode cX6_as 64 = .ok (.iload_n 1, 1) := by decide +kernel
theorem dX6_as_65 : decode cX6_as 65 = .ok (.goto 4, 3) := by decide +kernel
theorem dX6_as_68 : decode cX6_as 68 = .ok (.iconst (-1), 1) := by decide +kernel
theorem dX6_as_69 : decode cX6_as 69 = .ok (.ireturn, 1) := by decide +kernel
theorem dX6_sign_0 : decode cX6_sign 0 = .ok (.iload_n 1, 1) := by decide +kernel
theorem dX6_sign_1 : decode cX6_sign 1 = .ok (.invokestatic 144, 3) := by decide +kernel
theorem dX6_sign_4 : decode cX6_sign 4 = .ok (.ifCond .eq 20, 3) := by decide +kernel
theorem dX6_sign_7 : decode cX6_sign 7 = .ok (.iload_n 2, 1) := by decide +kernel
theorem dX6_sign_8 : decode cX6_sign 8 = .ok (.ifCond .lt 16, 3) := by decide +kernel
theorem dX6_sign_11 : decode cX6_sign 11 = .ok (.iload_n 2, 1) := by decide +kernel
theorem dX6_sign_12 : decode cX6_sign 12 = .ok (.aload_n 0, 1) := by decide +kernel
theorem dX6_sign_13 : decode cX6_sign 13 = .ok (.getfield 28, 3) := by decide +kernel
theorem dX6_sign_16 : decode cX6_sign 16 = .ok (.iload_n 1, 1) := by decide +kernel
theorem dX6_sign_17 : decode cX6_sign 17 = .ok (.aaload, 1) := by decide +kernel
theorem dX6_sign_18 : decode cX6_sign 18 = .ok (.invokevirtual 115, 3) := by decide +kernel
theorem dX6_sign_21 : decode cX6_sign 21 = .ok (.if_icmp .lt 6, 3) := by decide +kernel
theorem dX6_sign_24 : decode cX6_sign 24 = .ok (.bipush (-101), 2) := by decide +kernel
theorem dX6_sign_26 : decode cX6_sign 26 = .ok (.ireturn, 1) := by decide +kernel
theorem dX6_sign_27 : decode cX6_sign 27 = .ok (.aload_n 0, 1) := by decide +kernel
theorem dX6_sign_28 : decode cX6_sign 28 = .ok (.getfield 28, 3) := by decide +kernel
theorem dX6_sign_31 : decode cX6_sign 31 = .ok (.iload_n 1, 1) := by decide +kernel
theorem dX6_sign_32 : decode cX6_sign 32 = .ok (.aaload, 1) := by decide +kernel
theorem dX6_sign_33 : decode cX6_sign 33 = .ok (.iload_n 2, 1) := by decide +kernel
theorem dX6_sign_34 : decode cX6_sign 34 = .ok (.invokevirtual 147, 3) := by decide +kernel
theorem dX6_sign_37 : decode cX6_sign 37 = .ok (.invokestatic 150, 3) := by decide +kernel
theorem dX6_sign_40 : decode cX6_sign 40 = .ok (.ireturn, 1) := by decide +kernel
theorem dX6_act_0 : decode cX6_act 0 = .ok (.aload_n 0, 1) := by decide +kernel
theorem dX6_act_1 : decode cX6_act 1 = .ok (.iload_n 1, 1) := by decide +kernel
theorem dX6_act_2 : decode cX6_act 2 = .ok (.invokevirtual 99, 3) := by decide +kernel
theorem dX6_act_5 : decode cX6_act 5 = .ok (.ifCond .ne 6, 3) := by decide +kernel
theorem dX6_act_8 : decode cX6_act 8 = .ok (.bipush (-101), 2) := by decide +kernel
theorem dX6_act_10 : decode cX6_act 10 = .ok (.ireturn, 1) := by decide +kernel
theorem dX6_act_11 : decode cX6_act 11 = .ok (.iload_n 2, 1) := by decide +kernel
theorem dX6_act_12 : decode cX6_act 12 = .ok (.iload_n 3, 1) := by decide +kernel
theorem dX6_act_13 : decode cX6_act 13 = .ok (.bipush 12, 2) := by decide +kernel
theorem dX6_act_15 : decode cX6_act 15 = .ok (.invokestatic 153, 3) := by decide +kernel
theorem dX6_act_18 : decode cX6_act 18 = .ok (.ifCond .ne 6, 3) := by decide +kernel
theorem dX6_act_21 : decode cX6_act 21 = .ok (.bipush (-102), 2) := by decide +kernel
theorem dX6_act_23 : decode cX6_act 23 = .ok (.ireturn, 1) := by decide +kernel
theorem dX6_act_24 : decode cX6_act 24 = .ok (.aload_n 0, 1) := by decide +kernel
theorem dX6_act_25 : decode cX6_act 25 = .ok (.getfield 19, 3) := by decide +kernel
theorem dX6_act_28 : decode cX6_act 28 = .ok (.aload_n 0, 1) := by decide +kernel
theorem dX6_act_29 : decode cX6_act 29 = .ok (.getfield 28, 3) := by decide +kernel
theorem dX6_act_32 : decode cX6_act 32 = .ok (.iload_n 1, 1) := by decide +kernel
theorem dX6_act_33 : decode cX6_act 33 = .ok (.aaload, 1) := by decide +kernel
theorem dX6_act_34 : decode cX6_act 34 = .ok (.iload_n 2, 1) := by decide +kernel
theorem dX6_act_35 : decode cX6_act 35 = .ok (.iload_n 3, 1) := by decide +kernel
theorem dX6_act_36 : decode cX6_act 36 = .ok (.invokevirtual 157, 3) := by decide +kernel
theorem dX6_act_39 : decode cX6_act 39 = .ok (.ireturn, 1) := by decide +kernel
theorem dX6_flips_0 : decode cX6_flips 0 = .ok (.aload_n 0, 1) := by decide +kernel
theorem dX6_flips_1 : decode cX6_flips 1 = .ok (.iload_n 1, 1) := by decide +kernel
theorem dX6_flips_2 : decode cX6_flips 2 = .ok (.invokevirtual 99, 3) := by decide +kernel
theorem dX6_flips_5 : decode cX6_flips 5 = .ok (.ifCond .ne 6, 3) := by decide +kernel
theorem dX6_flips_8 : decode cX6_flips 8 = .ok (.bipush (-101), 2) := by decide +kernel
theorem dX6_flips_10 : decode cX6_flips 10 = .ok (.ireturn, 1) := by decide +kernel
theorem dX6_flips_11 : decode cX6_flips 11 = .ok (.iload_n 2, 1) := by decide +kernel
theorem dX6_flips_12 : decode cX6_flips 12 = .ok (.ifCond .lt 8, 3) := by decide +kernel
theorem dX6_flips_15 : decode cX6_flips 15 = .ok (.iload_n 2, 1) := by decide +kernel
theorem dX6_flips_16 : decode cX6_flips 16 = .ok (.iconst 4, 1) := by decide +kernel
theorem dX6_flips_17 : decode cX6_flips 17 = .ok (.if_icmp .le 6, 3) := by decide +kernel
theorem dX6_flips_20 : decode cX6_flips 20 = .ok (.bipush (-102), 2) := by decide +kernel
theorem dX6_flips_22 : decode cX6_flips 22 = .ok (.ireturn, 1) := by decide +kernel
theorem dX6_flips_23 : decode cX6_flips 23 = .ok (.iconst 0, 1) := by decide +kernel
theorem dX6_flips_24 : decode cX6_flips 24 = .ok (.istore_n 3, 1) := by decide +kernel
theorem dX6_flips_25 : decode cX6_flips 25 = .ok (.iconst 0, 1) := by decide +kernel
theorem dX6_flips_26 : decode cX6_flips 26 = .ok (.istore 4, 2) := by decide +kernel
theorem dX6_flips_28 : decode cX6_flips 28 = .ok (.iload 4, 2) := by decide +kernel
theorem dX6_flips_30 : decode cX6_flips 30 = .ok (.iconst 1, 1) := by decide +kernel
theorem dX6_flips_31 : decode cX6_flips 31 = .ok (.iload_n 2, 1) := by decide +kernel
theorem dX6_flips_32 : decode cX6_flips 32 = .ok (.ishl, 1) := by decide +kernel
theorem dX6_flips_33 : decode cX6_flips 33 = .ok (.if_icmp .ge 41, 3) := by decide +kernel
theorem dX6_flips_36 : decode cX6_flips 36 = .ok (.aload_n 0, 1) := by decide +kernel
theorem dX6_flips_37 : decode cX6_flips 37 = .ok (.getfield 19, 3) := by decide +kernel
theorem dX6_flips_40 : decode cX6_flips 40 = .ok (.aload_n 0, 1) := by decide +kernel
theorem dX6_flips_41 : decode cX6_flips 41 = .ok (.getfield 28, 3) := by decide +kernel
theorem dX6_flips_44 : decode cX6_flips 44 = .ok (.iload_n 1, 1) := by decide +kernel
theorem dX6_flips_45 : decode cX6_flips 45 = .ok (.aaload, 1) := by decide +kernel
theorem dX6_flips_46 : decode cX6_flips 46 = .ok (.iload 4, 2) := by decide +kernel
theorem dX6_flips_48 : decode cX6_flips 48 = .ok (.iconst 1, 1) := by decide +kernel
theorem dX6_flips_49 : decode cX6_flips 49 = .ok (.ishl, 1) := by decide +kernel
theorem dX6_flips_50 : decode cX6_flips 50 = .ok (.iload_n 2, 1) := by decide +kernel
theorem dX6_flips_51 : decode cX6_flips 51 = .ok (.iconst 1, 1) := by decide +kernel
theorem dX6_flips_52 : decode cX6_flips 52 = .ok (.iadd, 1) := by decide +kernel
theorem dX6_flips_53 : decode cX6_flips 53 = .ok (.invokevirtual 157, 3) := by decide +kernel
theorem dX6_flips_56 : decode cX6_flips 56 = .ok (.istore 5, 2) := by decide +kernel
theorem dX6_flips_58 : decode cX6_flips 58 = .ok (.iload_n 3, 1) := by decide +kernel
theorem dX6_flips_59 : decode cX6_flips 59 = .ok (.iload 5, 2) := by decide +kernel
theorem dX6_flips_61 : decode cX6_flips 61 = .ok (.iconst 1, 1) := by decide +kernel
theorem dX6_flips_62 : decode cX6_flips 62 = .ok (.iand, 1) := by decide +kernel
theorem dX6_flips_63 : decode cX6_flips 63 = .ok (.iload 4, 2) := by decide +kernel
theorem dX6_flips_65 : decode cX6_flips 65 = .ok (.ishl, 1) := by decide +kernel
theorem dX6_flips_66 : decode cX6_flips 66 = .ok (.ior, 1) := by decide +kernel
theorem dX6_flips_67 : decode cX6_flips 67 = .ok (.istore_n 3, 1) := by decide +kernel
theorem dX6_flips_68 : decode cX6_flips 68 = .ok (.iinc 4 1, 3) := by decide +kernel
theorem dX6_flips_71 : decode cX6_flips 71 = .ok (.goto (-43), 3) := by decide +kernel
theorem dX6_flips_74 : decode cX6_flips 74 = .ok (.iload_n 3, 1) := by decide +kernel
theorem dX6_flips_75 : decode cX6_flips 75 = .ok (.ireturn, 1) := by decide +kernel
theorem dX6_round_0 : decode cX6_round 0 = .ok (.aload_n 0, 1) := by decide +kernel
theorem dX6_round_1 : decode cX6_round 1 = .ok (.iload_n 1, 1) := by decide +kernel
theorem dX6_round_2 : decode cX6_round 2 = .ok (.invokevirtual 99, 3) := by decide +kernel
theorem dX6_round_5 : decode cX6_round 5 = .ok (.ifCond .ne 6, 3) := by decide +kernel
theorem dX6_round_8 : decode cX6_round 8 = .ok (.bipush (-101), 2) := by decide +kernel
theorem dX6_round_10 : decode cX6_round 10 = .ok (.ireturn, 1) := by decide +kernel
theorem dX6_round_11 : decode cX6_round 11 = .ok (.iload_n 2, 1) := by decide +kernel
theorem dX6_round_12 : decode cX6_round 12 = .ok (.iload_n 3, 1) := by decide +kernel
theorem dX6_round_13 : decode cX6_round 13 = .ok (.bipush 8, 2) := by decide +kernel
theorem dX6_round_15 : decode cX6_round 15 = .ok (.invokestatic 153, 3) := by decide +kernel
theorem dX6_round_18 : decode cX6_round 18 = .ok (.ifCond .ne 6, 3) := by decide +kernel
theorem dX6_round_21 : decode cX6_round 21 = .ok (.bipush (-102), 2) := by decide +kernel
theorem dX6_round_23 : decode cX6_round 23 = .ok (.ireturn, 1) := by decide +kernel
theorem dX6_round_24 : decode cX6_round 24 = .ok (.iload_n 2, 1) := by decide +kernel
theorem dX6_round_25 : decode cX6_round 25 = .ok (.istore 4, 2) := by decide +kernel
theorem dX6_round_27 : decode cX6_round 27 = .ok (.iconst 1, 1) := by decide +kernel
theorem dX6_round_28 : decode cX6_round 28 = .ok (.istore 5, 2) := by decide +kernel
theorem dX6_round_30 : decode cX6_round 30 = .ok (.iload 5, 2) := by decide +kernel
theorem dX6_round_32 : decode cX6_round 32 = .ok (.sipush 256, 3) := by decide +kernel
theorem dX6_round_35 : decode cX6_round 35 = .ok (.if_icmp .gt 36, 3) := by decide +kernel
theorem dX6_round_38 : decode cX6_round 38 = .ok (.aload_n 0, 1) := by decide +kernel
theorem dX6_round_39 : decode cX6_round 39 = .ok (.getfield 19, 3) := by decide +kernel
theorem dX6_round_42 : decode cX6_round 42 = .ok (.aload_n 0, 1) := by decide +kernel
theorem dX6_round_43 : decode cX6_round 43 = .ok (.getfield 28, 3) := by decide +kernel
theorem dX6_round_46 : decode cX6_round 46 = .ok (.iload_n 1, 1) := by decide +kernel
theorem dX6_round_47 : decode cX6_round 47 = .ok (.aaload, 1) := by decide +kernel
theorem dX6_round_48 : decode cX6_round 48 = .ok (.iload 4, 2) := by decide +kernel
theorem dX6_round_50 : decode cX6_round 50 = .ok (.iload_n 3, 1) := by decide +kernel
theorem dX6_round_51 : decode cX6_round 51 = .ok (.invokevirtual 157, 3) := by decide +kernel
theorem dX6_round_54 : decode cX6_round 54 = .ok (.istore 4, 2) := by decide +kernel
theorem dX6_round_56 : decode cX6_round 56 = .ok (.iload 4, 2) := by decide +kernel
theorem dX6_round_58 : decode cX6_round 58 = .ok (.iload_n 2, 1) := by decide +kernel
theorem dX6_round_59 : decode cX6_round 59 = .ok (.if_icmp .ne 6, 3) := by decide +kernel
theorem dX6_round_62 : decode cX6_round 62 = .ok (.iload 5, 2) := by decide +kernel
theorem dX6_round_64 : decode cX6_round 64 = .ok (.ireturn, 1) := by decide +kernel
theorem dX6_round_65 : decode cX6_round 65 = .ok (.iinc 5 1, 3) := by decide +kernel
theorem dX6_round_68 : decode cX6_round 68 = .ok (.goto (-38), 3) := by decide +kernel
theorem dX6_round_71 : decode cX6_round 71 = .ok (.iconst (-1), 1) := by decide +kernel
theorem dX6_round_72 : decode cX6_round 72 = .ok (.ireturn, 1) := by decide +kernel
theorem dX6_nothing_0 : decode cX6_nothing 0 = .ok (.aload_n 0, 1) := by decide +kernel
theorem dX6_nothing_1 : decode cX6_nothing 1 = .ok (.iload_n 1, 1) := by decide +kernel
theorem dX6_nothing_2 : decode cX6_nothing 2 = .ok (.invokevirtual 99, 3) := by decide +kernel
theorem dX6_nothing_5 : decode cX6_nothing 5 = .ok (.ifCond .eq 23, 3) := by decide +kernel
theorem dX6_nothing_8 : decode cX6_nothing 8 = .ok (.aload_n 0, 1) := by decide +kernel
theorem dX6_nothing_9 : decode cX6_nothing 9 = .ok (.getfield 51, 3) := by decide +kernel
theorem dX6_nothing_12 : decode cX6_nothing 12 = .ok (.aload_n 0, 1) := by decide +kernel
theorem dX6_nothing_13 : decode cX6_nothing 13 = .ok (.getfield 19, 3) := by decide +kernel
theorem dX6_nothing_16 : decode cX6_nothing 16 = .ok (.aload_n 0, 1) := by decide +kernel
theorem dX6_nothing_17 : decode cX6_nothing 17 = .ok (.getfield 28, 3) := by decide +kernel
theorem dX6_nothing_20 : decode cX6_nothing 20 = .ok (.iload_n 1, 1) := by decide +kernel
theorem dX6_nothing_21 : decode cX6_nothing 21 = .ok (.aaload, 1) := by decide +kernel
theorem dX6_nothing_22 : decode cX6_nothing 22 = .ok (.invokevirtual 161, 3) := by decide +kernel
theorem dX6_nothing_25 : decode cX6_nothing 25 = .ok (.goto 5, 3) := by decide +kernel
theorem dX6_nothing_28 : decode cX6_nothing 28 = .ok (.bipush (-101), 2) := by decide +kernel
theorem dX6_nothing_30 : decode cX6_nothing 30 = .ok (.ireturn, 1) := by decide +kernel
theorem dX6_alike_0 : decode cX6_alike 0 = .ok (.aload_n 0, 1) := by decide +kernel
theorem dX6_alike_1 : decode cX6_alike 1 = .ok (.iload_n 1, 1) := by decide +kernel
theorem dX6_alike_2 : decode cX6_alike 2 = .ok (.invokevirtual 99, 3) := by decide +kernel
theorem dX6_alike_5 : decode cX6_alike 5 = .ok (.ifCond .eq 11, 3) := by decide +kernel
theorem dX6_alike_8 : decode cX6_alike 8 = .ok (.aload_n 0, 1) := by decide +kernel
theorem dX6_alike_9 : decode cX6_alike 9 = .ok (.iload_n 2, 1) := by decide +kernel
theorem dX6_alike_10 : decode cX6_alike 10 = .ok (.invokevirtual 99, 3) := by decide +kernel
theorem dX6_alike_13 : decode cX6_alike 13 = .ok (.ifCond .ne 6, 3) := by decide +kernel
theorem dX6_alike_16 : decode cX6_alike 16 = .ok (.bipush (-101), 2) := by decide +kernel
theorem dX6_alike_18 : decode cX6_alike 18 = .ok (.ireturn, 1) := by decide +kernel
theorem dX6_alike_19 : decode cX6_alike 19 = .ok (.aload_n 0, 1) := by decide +kernel
theorem dX6_alike_20 : decode cX6_alike 20 = .ok (.getfield 55, 3) := by decide +kernel
theorem dX6_alike_23 : decode cX6_alike 23 = .ok (.aload_n 0, 1) := by decide +kernel
theorem dX6_alike_24 : decode cX6_alike 24 = .ok (.getfield 28, 3) := by decide +kernel
theorem dX6_alike_27 : decode cX6_alike 27 = .ok (.iload_n 1, 1) := by decide +kernel
theorem dX6_alike_28 : decode cX6_alike 28 = .ok (.aaload, 1) := by decide +kernel
theorem dX6_alike_29 : decode cX6_alike 29 = .ok (.invokevirtual 165, 3) := by decide +kernel
theorem dX6_alike_32 : decode cX6_alike 32 = .ok (.aload_n 0, 1) := by decide +kernel
theorem dX6_alike_33 : decode cX6_alike 33 = .ok (.getfield 55, 3) := by decide +kernel
theorem dX6_alike_36 : decode cX6_alike 36 = .ok (.aload_n 0, 1) := by decide +kernel
theorem dX6_alike_37 : decode cX6_alike 37 = .ok (.getfield 28, 3) := by decide +kernel
theorem dX6_alike_40 : decode cX6_alike 40 = .ok (.iload_n 2, 1) := by decide +kernel
theorem dX6_alike_41 : decode cX6_alike 41 = .ok (.aaload, 1) := by decide +kernel
theorem dX6_alike_42 : decode cX6_alike 42 = .ok (.invokevirtual 169, 3) := by decide +kernel
theorem dX6_alike_45 : decode cX6_alike 45 = .ok (.aload_n 0, 1) := by decide +kernel
theorem dX6_alike_46 : decode cX6_alike 46 = .ok (.getfield 51, 3) := by decide +kernel
theorem dX6_alike_49 : decode cX6_alike 49 = .ok (.aload_n 0, 1) := by decide +kernel
theorem dX6_alike_50 : decode cX6_alike 50 = .ok (.getfield 19, 3) := by decide +kernel
theorem dX6_alike_53 : decode cX6_alike 53 = .ok (.aload_n 0, 1) := by decide +kernel
theorem dX6_alike_54 : decode cX6_alike 54 = .ok (.getfield 55, 3) := by decide +kernel
theorem dX6_alike_57 : decode cX6_alike 57 = .ok (.invokevirtual 161, 3) := by decide +kernel
theorem dX6_alike_60 : decode cX6_alike 60 = .ok (.ireturn, 1) := by decide +kernel
theorem dX6_order_0 : decode cX6_order 0 = .ok (.aload_n 0, 1) := by decide +kernel
theorem dX6_order_1 : decode cX6_order 1 = .ok (.iload_n 1, 1) := by decide +kernel
theorem dX6_order_2 : decode cX6_order 2 = .ok (.invokevirtual 99, 3) := by decide +kernel
theorem dX6_order_5 : decode cX6_order 5 = .ok (.ifCond .ne 6, 3) := by decide +kernel
theorem dX6_order_8 : decode cX6_order 8 = .ok (.bipush (-101), 2) := by decide +kernel
theorem dX6_order_10 : decode cX6_order 10 = .ok (.ireturn, 1) := by decide +kernel
theorem dX6_order_11 : decode cX6_order 11 = .ok (.aload_n 0, 1) := by decide +kernel
theorem dX6_order_12 : decode cX6_order 12 = .ok (.getfield 55, 3) := by decide +kernel
theorem dX6_order_15 : decode cX6_order 15 = .ok (.invokevirtual 96, 3) := by decide +kernel
theorem dX6_order_18 : decode cX6_order 18 = .ok (.iconst 1, 1) := by decide +kernel
theorem dX6_order_19 : decode cX6_order 19 = .ok (.istore_n 2, 1) := by decide +kernel
theorem dX6_order_20 : decode cX6_order 20 = .ok (.iload_n 2, 1) := by decide +kernel
theorem dX6_order_21 : decode cX6_order 21 = .ok (.bipush 8, 2) := by decide +kernel
theorem dX6_order_23 : decode cX6_order 23 = .ok (.if_icmp .gt 52, 3) := by decide +kernel
theorem dX6_order_26 : decode cX6_order 26 = .ok (.aload_n 0, 1) := by decide +kernel
theorem dX6_order_27 : decode cX6_order 27 = .ok (.getfield 55, 3) := by decide +kernel
theorem dX6_order_30 : decode cX6_order 30 = .ok (.aload_n 0, 1) := by decide +kernel
theorem dX6_order_31 : decode cX6_order 31 = .ok (.getfield 28, 3) := by decide +kernel
theorem dX6_order_34 : decode cX6_order 34 = .ok (.iload_n 1, 1) := by decide +kernel
theorem dX6_order_35 : decode cX6_order 35 = .ok (.aaload, 1) := by decide +kernel
theorem dX6_order_36 : decode cX6_order 36 = .ok (.invokevirtual 172, 3) := by decide +kernel
theorem dX6_order_39 : decode cX6_order 39 = .ok (.aload_n 0, 1) := by decide +kernel
theorem dX6_order_40 : decode cX6_order 40 = .ok (.getfield 51, 3) := by decide +kernel
theorem dX6_order_43 : decode cX6_order 43 = .ok (.aload_n 0, 1) := by decide +kernel
theorem dX6_order_44 : decode cX6_order 44 = .ok (.getfield 19, 3) := by decide +kernel
theorem dX6_order_47 : decode cX6_order 47 = .ok (.aload_n 0, 1) := by decide +kernel
theorem dX6_order_48 : decode cX6_order 48 = .ok (.getfield 55, 3) := by decide +kernel
theorem dX6_order_51 : decode cX6_order 51 = .ok (.invokevirtual 161, 3) := by decide +kernel
theorem dX6_order_54 : decode cX6_order 54 = .ok (.istore_n 3, 1) := by decide +kernel
theorem dX6_order_55 : decode cX6_order 55 = .ok (.iload_n 3, 1) := by decide +kernel
theorem dX6_order_56 : decode cX6_order 56 = .ok (.iconst 1, 1) := by decide +kernel
theorem dX6_order_57 : decode cX6_order 57 = .ok (.if_icmp .ne 5, 3) := by decide +kernel
theorem dX6_order_60 : decode cX6_order 60 = .ok (.iload_n 2, 1) := by decide +kernel
theorem dX6_order_61 : decode cX6_order 61 = .ok (.ireturn, 1) := by decide +kernel
theorem dX6_order_62 : decode cX6_order 62 = .ok (.iload_n 3, 1) := by decide +kernel
theorem dX6_order_63 : decode cX6_order 63 = .ok (.iconst (-1), 1) := by decide +kernel
theorem dX6_order_64 : decode cX6_order 64 = .ok (.if_icmp .ne 5, 3) := by decide +kernel
theorem dX6_order_67 : decode cX6_order 67 = .ok (.iconst (-1), 1) := by decide +kernel
theorem dX6_order_68 : decode cX6_order 68 = .ok (.ireturn, 1) := by decide +kernel
theorem dX6_order_69 : decode cX6_order 69 = .ok (.iinc 2 1, 3) := by decide +kernel
theorem dX6_order_72 : decode cX6_order 72 = .ok (.goto (-52), 3) := by decide +kernel
theorem dX6_order_75 : decode cX6_order 75 = .ok (.iconst (-1), 1) := by decide +kernel
theorem dX6_order_76 : decode cX6_order 76 = .ok (.ireturn, 1) := by decide +kernel
theorem dX6_times_0 : decode cX6_times 0 = .ok (.aload_n 0, 1) := by decide +kernel
theorem dX6_times_1 : decode cX6_times 1 = .ok (.iload_n 1, 1) := by decide +kernel
theorem dX6_times_2 : decode cX6_times 2 = .ok (.invokevirtual 99, 3) := by decide +kernel
theorem dX6_times_5 : decode cX6_times 5 = .ok (.ifCond .eq 19, 3) := by decide +kernel
theorem dX6_times_8 : decode cX6_times 8 = .ok (.aload_n 0, 1) := by decide +kernel
theorem dX6_times_9 : decode cX6_times 9 = .ok (.iload_n 2, 1) := by decide +kernel
theorem dX6_times_10 : decode cX6_times 10 = .ok (.invokevirtual 99, 3) := by decide +kernel
theorem dX6_times_13 : decode cX6_times 13 = .ok (.ifCond .eq 11, 3) := by decide +kernel
theorem dX6_times_16 : decode cX6_times 16 = .ok (.aload_n 0, 1) := by decide +kernel
theorem dX6_times_17 : decode cX6_times 17 = .ok (.iload_n 3, 1) := by decide +kernel
theorem dX6_times_18 : decode cX6_times 18 = .ok (.invokevirtual 99, 3) := by decide +kernel
theorem dX6_times_21 : decode cX6_times 21 = .ok (.ifCond .ne 6, 3) := by decide +kernel
theorem dX6_times_24 : decode cX6_times 24 = .ok (.bipush (-101), 2) := by decide +kernel
theorem dX6_times_26 : decode cX6_times 26 = .ok (.ireturn, 1) := by decide +kernel
theorem dX6_times_27 : decode cX6_times 27 = .ok (.aload_n 0, 1) := by decide +kernel
theorem dX6_times_28 : decode cX6_times 28 = .ok (.getfield 55, 3) := by decide +kernel
theorem dX6_times_31 : decode cX6_times 31 = .ok (.aload_n 0, 1) := by decide +kernel
theorem dX6_times_32 : decode cX6_times 32 = .ok (.getfield 28, 3) := by decide +kernel
theorem dX6_times_35 : decode cX6_times 35 = .ok (.iload_n 1, 1) := by decide +kernel
theorem dX6_times_36 : decode cX6_times 36 = .ok (.aaload, 1) := by decide +kernel
theorem dX6_times_37 : decode cX6_times 37 = .ok (.invokevirtual 165, 3) := by decide +kernel
theorem dX6_times_40 : decode cX6_times 40 = .ok (.aload_n 0, 1) := by decide +kernel
theorem dX6_times_41 : decode cX6_times 41 = .ok (.getfield 55, 3) := by decide +kernel
theorem dX6_times_44 : decode cX6_times 44 = .ok (.aload_n 0, 1) := by decide +kernel
theorem dX6_times_45 : decode cX6_times 45 = .ok (.getfield 28, 3) := by decide +kernel
theorem dX6_times_48 : decode cX6_times 48 = .ok (.iload_n 2, 1) := by decide +kernel
theorem dX6_times_49 : decode cX6_times 49 = .ok (.aaload, 1) := by decide +kernel
theorem dX6_times_50 : decode cX6_times 50 = .ok (.invokevirtual 172, 3) := by decide +kernel
theorem dX6_times_53 : decode cX6_times 53 = .ok (.aload_n 0, 1) := by decide +kernel
theorem dX6_times_54 : decode cX6_times 54 = .ok (.getfield 55, 3) := by decide +kernel
theorem dX6_times_57 : decode cX6_times 57 = .ok (.invokevirtual 115, 3) := by decide +kernel
theorem dX6_times_60 : decode cX6_times 60 = .ok (.bipush 16, 2) := by decide +kernel
theorem dX6_times_62 : decode cX6_times 62 = .ok (.if_icmp .le 6, 3) := by decide +kernel
theorem dX6_times_65 : decode cX6_times 65 = .ok (.bipush (-104), 2) := by decide +kernel
theorem dX6_times_67 : decode cX6_times 67 = .ok (.ireturn, 1) := by decide +kernel
theorem dX6_times_68 : decode cX6_times 68 = .ok (.aload_n 0, 1) := by decide +kernel
theorem dX6_times_69 : decode cX6_times 69 = .ok (.getfield 28, 3) := by decide +kernel
theorem dX6_times_72 : decode cX6_times 72 = .ok (.iload_n 3, 1) := by decide +kernel
theorem dX6_times_73 : decode cX6_times 73 = .ok (.aaload, 1) := by decide +kernel
theorem dX6_times_74 : decode cX6_times 74 = .ok (.aload_n 0, 1) := by decide +kernel
theorem dX6_times_75 : decode cX6_times 75 = .ok (.getfield 55, 3) := by decide +kernel
theorem dX6_times_78 : decode cX6_times 78 = .ok (.invokevirtual 165, 3) := by decide +kernel
theorem dX6_times_81 : decode cX6_times 81 = .ok (.aload_n 0, 1) := by decide +kernel
theorem dX6_times_82 : decode cX6_times 82 = .ok (.getfield 55, 3) := by decide +kernel
theorem dX6_times_85 : decode cX6_times 85 = .ok (.invokevirtual 115, 3) := by decide +kernel
theorem dX6_times_88 : decode cX6_times 88 = .ok (.ireturn, 1) := by decide +kernel
theorem dX6_undo_0 : decode cX6_undo 0 = .ok (.aload_n 0, 1) := by decide +kernel
theorem dX6_undo_1 : decode cX6_undo 1 = .ok (.iload_n 1, 1) := by decide +kernel
theorem dX6_undo_2 : decode cX6_undo 2 = .ok (.invokevirtual 99, 3) := by decide +kernel
theorem dX6_undo_5 : decode cX6_undo 5 = .ok (.ifCond .eq 11, 3) := by decide +kernel
theorem dX6_undo_8 : decode cX6_undo 8 = .ok (.aload_n 0, 1) := by decide +kernel
theorem dX6_undo_9 : decode cX6_undo 9 = .ok (.iload_n 2, 1) := by decide +kernel
theorem dX6_undo_10 : decode cX6_undo 10 = .ok (.invokevirtual 99, 3) := by decide +kernel
theorem dX6_undo_13 : decode cX6_undo 13 = .ok (.ifCond .ne 6, 3) := by decide +kernel
theorem dX6_undo_16 : decode cX6_undo 16 = .ok (.bipush (-101), 2) := by decide +kernel
theorem dX6_undo_18 : decode cX6_undo 18 = .ok (.ireturn, 1) := by decide +kernel
theorem dX6_undo_19 : decode cX6_undo 19 = .ok (.aload_n 0, 1) := by decide +kernel
theorem dX6_undo_20 : decode cX6_undo 20 = .ok (.getfield 55, 3) := by decide +kernel
theorem dX6_undo_23 : decode cX6_undo 23 = .ok (.invokevirtual 96, 3) := by decide +kernel
theorem dX6_undo_26 : decode cX6_undo 26 = .ok (.aload_n 0, 1) := by decide +kernel
theorem dX6_undo_27 : decode cX6_undo 27 = .ok (.getfield 55, 3) := by decide +kernel
theorem dX6_undo_30 : decode cX6_undo 30 = .ok (.aload_n 0, 1) := by decide +kernel
theorem dX6_undo_31 : decode cX6_undo 31 = .ok (.getfield 28, 3) := by decide +kernel
theorem dX6_undo_34 : decode cX6_undo 34 = .ok (.iload_n 1, 1) := by decide +kernel
theorem dX6_undo_35 : decode cX6_undo 35 = .ok (.aaload, 1) := by decide +kernel
theorem dX6_undo_36 : decode cX6_undo 36 = .ok (.invokevirtual 169, 3) := by decide +kernel
theorem dX6_undo_39 : decode cX6_undo 39 = .ok (.aload_n 0, 1) := by decide +kernel
theorem dX6_undo_40 : decode cX6_undo 40 = .ok (.getfield 28, 3) := by decide +kernel
theorem dX6_undo_43 : decode cX6_undo 43 = .ok (.iload_n 2, 1) := by decide +kernel
theorem dX6_undo_44 : decode cX6_undo 44 = .ok (.aaload, 1) := by decide +kernel
theorem dX6_undo_45 : decode cX6_undo 45 = .ok (.aload_n 0, 1) := by decide +kernel
theorem dX6_undo_46 : decode cX6_undo 46 = .ok (.getfield 55, 3) := by decide +kernel
theorem dX6_undo_49 : decode cX6_undo 49 = .ok (.invokevirtual 165, 3) := by decide +kernel
theorem dX6_undo_52 : decode cX6_undo 52 = .ok (.aload_n 0, 1) := by decide +kernel
theorem dX6_undo_53 : decode cX6_undo 53 = .ok (.getfield 55, 3) := by decide +kernel
theorem dX6_undo_56 : decode cX6_undo 56 = .ok (.invokevirtual 115, 3) := by decide +kernel
theorem dX6_undo_59 : decode cX6_undo 59 = .ok (.ireturn, 1) := by decide +kernel
theorem dX6_section_0 : decode cX6_section 0 = .ok (.aload_n 0, 1) := by decide +kernel
theorem dX6_section_1 : decode cX6_section 1 = .ok (.iload_n 1, 1) := by decide +kernel
theorem dX6_section_2 : decode cX6_section 2 = .ok (.invokevirtual 99, 3) := by decide +kernel
theorem dX6_section_5 : decode cX6_section 5 = .ok (.ifCond .eq 11, 3) := by decide +kernel
theorem dX6_section_8 : decode cX6_section 8 = .ok (.aload_n 0, 1) := by decide +kernel
theorem dX6_section_9 : decode cX6_section 9 = .ok (.iload_n 3, 1) := by decide +kernel
theorem dX6_section_10 : decode cX6_section 10 = .ok (.invokevirtual 99, 3) := by decide +kernel
theorem dX6_section_13 : decode cX6_section 13 = .ok (.ifCond .ne 6, 3) := by decide +kernel
theorem dX6_section_16 : decode cX6_section 16 = .ok (.bipush (-101), 2) := by decide +kernel
theorem dX6_section_18 : decode cX6_section 18 = .ok (.ireturn, 1) := by decide +kernel
theorem dX6_section_19 : decode cX6_section 19 = .ok (.iload_n 2, 1) := by decide +kernel
theorem dX6_section_20 : decode cX6_section 20 = .ok (.invokestatic 175, 3) := by decide +kernel
theorem dX6_section_23 : decode cX6_section 23 = .ok (.ifCond .ne 6, 3) := by decide +kernel
theorem dX6_section_26 : decode cX6_section 26 = .ok (.bipush (-102), 2) := by decide +kernel
theorem dX6_section_28 : decode cX6_section 28 = .ok (.ireturn, 1) := by decide +kernel
theorem dX6_section_29 : decode cX6_section 29 = .ok (.aload_n 0, 1) := by decide +kernel
theorem dX6_section_30 : decode cX6_section 30 = .ok (.getfield 19, 3) := by decide +kernel
theorem dX6_section_33 : decode cX6_section 33 = .ok (.aload_n 0, 1) := by decide +kernel
theorem dX6_section_34 : decode cX6_section 34 = .ok (.getfield 28, 3) := by decide +kernel
theorem dX6_section_37 : decode cX6_section 37 = .ok (.iload_n 1, 1) := by decide +kernel
theorem dX6_section_38 : decode cX6_section 38 = .ok (.aaload, 1) := by decide +kernel
theorem dX6_section_39 : decode cX6_section 39 = .ok (.iload_n 2, 1) := by decide +kernel
theorem dX6_section_40 : decode cX6_section 40 = .ok (.aload_n 0, 1) := by decide +kernel
theorem dX6_section_41 : decode cX6_section 41 = .ok (.getfield 55, 3) := by decide +kernel
theorem dX6_section_44 : decode cX6_section 44 = .ok (.invokevirtual 178, 3) := by decide +kernel
theorem dX6_section_47 : decode cX6_section 47 = .ok (.aload_n 0, 1) := by decide +kernel
theorem dX6_section_48 : decode cX6_section 48 = .ok (.getfield 28, 3) := by decide +kernel
theorem dX6_section_51 : decode cX6_section 51 = .ok (.iload_n 3, 1) := by decide +kernel
theorem dX6_section_52 : decode cX6_section 52 = .ok (.aaload, 1) := by decide +kernel
theorem dX6_section_53 : decode cX6_section 53 = .ok (.aload_n 0, 1) := by decide +kernel
theorem dX6_section_54 : decode cX6_section 54 = .ok (.getfield 55, 3) := by decide +kernel
theorem dX6_section_57 : decode cX6_section 57 = .ok (.invokevirtual 165, 3) := by decide +kernel
theorem dX6_section_60 : decode cX6_section 60 = .ok (.aload_n 0, 1) := by decide +kernel
theorem dX6_section_61 : decode cX6_section 61 = .ok (.getfield 55, 3) := by decide +kernel
theorem dX6_section_64 : decode cX6_section 64 = .ok (.invokevirtual 115, 3) := by decide +kernel
theorem dX6_section_67 : decode cX6_section 67 = .ok (.ireturn, 1) := by decide +kernel
theorem dX6_aim_0 : decode cX6_aim 0 = .ok (.aload_n 0, 1) := by decide +kernel
theorem dX6_aim_1 : decode cX6_aim 1 = .ok (.getfield 19, 3) := by decide +kernel
theorem dX6_aim_4 : decode cX6_aim 4 = .ok (.iload_n 1, 1) := by decide +kernel
theorem dX6_aim_5 : decode cX6_aim 5 = .ok (.invokevirtual 116, 3) := by decide +kernel
theorem dX6_aim_8 : decode cX6_aim 8 = .ok (.ifCond .eq 19, 3) := by decide +kernel
theorem dX6_aim_11 : decode cX6_aim 11 = .ok (.iload_n 3, 1) := by decide +kernel
theorem dX6_aim_12 : decode cX6_aim 12 = .ok (.iconst (-1), 1) := by decide +kernel
theorem dX6_aim_13 : decode cX6_aim 13 = .ok (.if_icmp .eq 17, 3) := by decide +kernel
theorem dX6_aim_16 : decode cX6_aim 16 = .ok (.aload_n 0, 1) := by decide +kernel
theorem dX6_aim_17 : decode cX6_aim 17 = .ok (.getfield 19, 3) := by decide +kernel
theorem dX6_aim_20 : decode cX6_aim 20 = .ok (.iload_n 3, 1) := by decide +kernel
theorem dX6_aim_21 : decode cX6_aim 21 = .ok (.invokevirtual 116, 3) := by decide +kernel
theorem dX6_aim_24 : decode cX6_aim 24 = .ok (.ifCond .ne 6, 3) := by decide +kernel
theorem dX6_aim_27 : decode cX6_aim 27 = .ok (.bipush (-101), 2) := by decide +kernel
theorem dX6_aim_29 : decode cX6_aim 29 = .ok (.ireturn, 1) := by decide +kernel
theorem dX6_aim_30 : decode cX6_aim 30 = .ok (.iload_n 2, 1) := by decide +kernel
theorem dX6_aim_31 : decode cX6_aim 31 = .ok (.invokestatic 175, 3) := by decide +kernel
theorem dX6_aim_34 : decode cX6_aim 34 = .ok (.ifCond .ne 6, 3) := by decide +kernel
theorem dX6_aim_37 : decode cX6_aim 37 = .ok (.bipush (-102), 2) := by decide +kernel
theorem dX6_aim_39 : decode cX6_aim 39 = .ok (.ireturn, 1) := by decide +kernel
theorem dX6_aim_40 : decode cX6_aim 40 = .ok (.aload_n 0, 1) := by decide +kernel
theorem dX6_aim_41 : decode cX6_aim 41 = .ok (.getfield 19, 3) := by decide +kernel
theorem dX6_aim_44 : decode cX6_aim 44 = .ok (.iload_n 1, 1) := by decide +kernel
theorem dX6_aim_45 : decode cX6_aim 45 = .ok (.iload_n 2, 1) := by decide +kernel
theorem dX6_aim_46 : decode cX6_aim 46 = .ok (.invokevirtual 122, 3) := by decide +kernel
theorem dX6_aim_49 : decode cX6_aim 49 = .ok (.istore 4, 2) := by decide +kernel
theorem dX6_aim_51 : decode cX6_aim 51 = .ok (.aload_n 0, 1) := by decide +kernel
theorem dX6_aim_52 : decode cX6_aim 52 = .ok (.getfield 19, 3) := by decide +kernel
theorem dX6_aim_55 : decode cX6_aim 55 = .ok (.iload_n 1, 1) := by decide +kernel
theorem dX6_aim_56 : decode cX6_aim 56 = .ok (.iload_n 2, 1) := by decide +kernel
theorem dX6_aim_57 : decode cX6_aim 57 = .ok (.iload_n 3, 1) := by decide +kernel
theorem dX6_aim_58 : decode cX6_aim 58 = .ok (.invokevirtual 182, 3) := by decide +kernel
theorem dX6_aim_61 : decode cX6_aim 61 = .ok (.iload 4, 2) := by decide +kernel
theorem dX6_aim_63 : decode cX6_aim 63 = .ok (.ireturn, 1) := by decide +kernel
theorem dX6_change_0 : decode cX6_change 0 = .ok (.aload_n 0, 1) := by decide +kernel
theorem dX6_change_1 : decode cX6_change 1 = .ok (.getfield 19, 3) := by decide +kernel
theorem dX6_change_4 : decode cX6_change 4 = .ok (.iload_n 1, 1) := by decide +kernel
theorem dX6_change_5 : decode cX6_change 5 = .ok (.invokevirtual 116, 3) := by decide +kernel
theorem dX6_change_8 : decode cX6_change 8 = .ok (.ifCond .ne 6, 3) := by decide +kernel
theorem dX6_change_11 : decode cX6_change 11 = .ok (.bipush (-101), 2) := by decide +kernel
theorem dX6_change_13 : decode cX6_change 13 = .ok (.ireturn, 1) := by decide +kernel
theorem dX6_change_14 : decode cX6_change 14 = .ok (.iload_n 2, 1) := by decide +kernel
theorem dX6_change_15 : decode cX6_change 15 = .ok (.invokestatic 141, 3) := by decide +kernel
theorem dX6_change_18 : decode cX6_change 18 = .ok (.ifCond .ne 6, 3) := by decide +kernel
theorem dX6_change_21 : decode cX6_change 21 = .ok (.bipush (-102), 2) := by decide +kernel
theorem dX6_change_23 : decode cX6_change 23 = .ok (.ireturn, 1) := by decide +kernel
theorem dX6_change_24 : decode cX6_change 24 = .ok (.aload_n 0, 1) := by decide +kernel
theorem dX6_change_25 : decode cX6_change 25 = .ok (.getfield 19, 3) := by decide +kernel
theorem dX6_change_28 : decode cX6_change 28 = .ok (.iload_n 1, 1) := by decide +kernel
theorem dX6_change_29 : decode cX6_change 29 = .ok (.invokevirtual 119, 3) := by decide +kernel
theorem dX6_change_32 : decode cX6_change 32 = .ok (.istore_n 3, 1) := by decide +kernel
theorem dX6_change_33 : decode cX6_change 33 = .ok (.aload_n 0, 1) := by decide +kernel
theorem dX6_change_34 : decode cX6_change 34 = .ok (.getfield 19, 3) := by decide +kernel
theorem dX6_change_37 : decode cX6_change 37 = .ok (.iload_n 1, 1) := by decide +kernel
theorem dX6_change_38 : decode cX6_change 38 = .ok (.iload_n 2, 1) := by decide +kernel
theorem dX6_change_39 : decode cX6_change 39 = .ok (.invokevirtual 186, 3) := by decide +kernel
theorem dX6_change_42 : decode cX6_change 42 = .ok (.iload_n 3, 1) := by decide +kernel
theorem dX6_change_43 : decode cX6_change 43 = .ok (.ireturn, 1) := by decide +kernel
theorem dX6_see_0 : decode cX6_see 0 = .ok (.aload_n 0, 1) := by decide +kernel
theorem dX6_see_1 : decode cX6_see 1 = .ok (.getfield 19, 3) := by decide +kernel
theorem dX6_see_4 : decode cX6_see 4 = .ok (.iload_n 1, 1) := by decide +kernel
theorem dX6_see_5 : decode cX6_see 5 = .ok (.invokevirtual 116, 3) := by decide +kernel
theorem dX6_see_8 : decode cX6_see 8 = .ok (.ifCond .ne 6, 3) := by decide +kernel
theorem dX6_see_11 : decode cX6_see 11 = .ok (.bipush (-101), 2) := by decide +kernel
theorem dX6_see_13 : decode cX6_see 13 = .ok (.ireturn, 1) := by decide +kernel
theorem dX6_see_14 : decode cX6_see 14 = .ok (.iload_n 2, 1) := by decide +kernel
theorem dX6_see_15 : decode cX6_see 15 = .ok (.ifCond .lt 8, 3) := by decide +kernel
theorem dX6_see_18 : decode cX6_see 18 = .ok (.iload_n 2, 1) := by decide +kernel
theorem dX6_see_19 : decode cX6_see 19 = .ok (.iconst 4, 1) := by decide +kernel
theorem dX6_see_20 : decode cX6_see 20 = .ok (.if_icmp .lt 6, 3) := by decide +kernel
theorem dX6_see_23 : decode cX6_see 23 = .ok (.bipush (-102), 2) := by decide +kernel
theorem dX6_see_25 : decode cX6_see 25 = .ok (.ireturn, 1) := by decide +kernel
theorem dX6_see_26 : decode cX6_see 26 = .ok (.aload_n 0, 1) := by decide +kernel
theorem dX6_see_27 : decode cX6_see 27 = .ok (.getfield 41, 3) := by decide +kernel
theorem dX6_see_30 : decode cX6_see 30 = .ok (.invokevirtual 190, 3) := by decide +kernel
theorem dX6_see_33 : decode cX6_see 33 = .ok (.bipush 6, 2) := by decide +kernel
theorem dX6_see_35 : decode cX6_see 35 = .ok (.if_icmp .lt 6, 3) := by decide +kernel
theorem dX6_see_38 : decode cX6_see 38 = .ok (.bipush (-104), 2) := by decide +kernel
theorem dX6_see_40 : decode cX6_see 40 = .ok (.ireturn, 1) := by decide +kernel
theorem dX6_see_41 : decode cX6_see 41 = .ok (.aload_n 0, 1) := by decide +kernel
theorem dX6_see_42 : decode cX6_see 42 = .ok (.getfield 41, 3) := by decide +kernel
theorem dX6_see_45 : decode cX6_see 45 = .ok (.iload_n 1, 1) := by decide +kernel
theorem dX6_see_46 : decode cX6_see 46 = .ok (.iload_n 3, 1) := by decide +kernel
theorem dX6_see_47 : decode cX6_see 47 = .ok (.ifCond .eq 11, 3) := by decide +kernel
theorem dX6_see_50 : decode cX6_see 50 = .ok (.getstatic 191, 3) := by decide +kernel
theorem dX6_see_53 : decode cX6_see 53 = .ok (.iload_n 2, 1) := by decide +kernel
theorem dX6_see_54 : decode cX6_see 54 = .ok (.iaload, 1) := by decide +kernel
theorem dX6_see_55 : decode cX6_see 55 = .ok (.goto 13, 3) := by decide +kernel
theorem dX6_see_58 : decode cX6_see 58 = .ok (.bipush 31, 2) := by decide +kernel
theorem dX6_see_60 : decode cX6_see 60 = .ok (.getstatic 191, 3) := by decide +kernel
theorem dX6_see_63 : decode cX6_see 63 = .ok (.iload_n 2, 1) := by decide +kernel
theorem dX6_see_64 : decode cX6_see 64 = .ok (.iaload, 1) := by decide +kernel
theorem dX6_see_65 : decode cX6_see 65 = .ok (.iconst (-1), 1) := by decide +kernel
theorem dX6_see_66 : decode cX6_see 66 = .ok (.ixor, 1) := by decide +kernel
theorem dX6_see_67 : decode cX6_see 67 = .ok (.iand, 1) := by decide +kernel
theorem dX6_see_68 : decode cX6_see 68 = .ok (.invokevirtual 195, 3) := by decide +kernel
theorem dX6_see_71 : decode cX6_see 71 = .ok (.aload_n 0, 1) := by decide +kernel
theorem dX6_see_72 : decode cX6_see 72 = .ok (.getfield 41, 3) := by decide +kernel
theorem dX6_see_75 : decode cX6_see 75 = .ok (.invokevirtual 190, 3) := by decide +kernel
theorem dX6_see_78 : decode cX6_see 78 = .ok (.ireturn, 1) := by decide +kernel
theorem dX6_forget_0 : decode cX6_forget 0 = .ok (.aload_n 0, 1) := by decide +kernel
theorem dX6_forget_1 : decode cX6_forget 1 = .ok (.getfield 41, 3) := by decide +kernel
theorem dX6_forget_4 : decode cX6_forget 4 = .ok (.invokevirtual 190, 3) := by decide +kernel
theorem dX6_forget_7 : decode cX6_forget 7 = .ok (.istore_n 1, 1) := by decide +kernel
theorem dX6_forget_8 : decode cX6_forget 8 = .ok (.aload_n 0, 1) := by decide +kernel
theorem dX6_forget_9 : decode cX6_forget 9 = .ok (.getfield 41, 3) := by decide +kernel
theorem dX6_forget_12 : decode cX6_forget 12 = .ok (.invokevirtual 97, 3) := by decide +kernel
theorem dX6_forget_15 : decode cX6_forget 15 = .ok (.iload_n 1, 1) := by decide +kernel
theorem dX6_forget_16 : decode cX6_forget 16 = .ok (.ireturn, 1) := by decide +kernel
theorem dX6_drawn_0 : decode cX6_drawn 0 = .ok (.iload_n 1, 1) := by decide +kernel
theorem dX6_drawn_1 : decode cX6_drawn 1 = .ok (.iconst 1, 1) := by decide +kernel
theorem dX6_drawn_2 : decode cX6_drawn 2 = .ok (.if_icmp .lt 22, 3) := by decide +kernel
theorem dX6_drawn_5 : decode cX6_drawn 5 = .ok (.iload_n 1, 1) := by decide +kernel
theorem dX6_drawn_6 : decode cX6_drawn 6 = .ok (.bipush 30, 2) := by decide +kernel
theorem dX6_drawn_8 : decode cX6_drawn 8 = .ok (.if_icmp .gt 16, 3) := by decide +kernel
theorem dX6_drawn_11 : decode cX6_drawn 11 = .ok (.iload_n 2, 1) := by decide +kernel
theorem dX6_drawn_12 : decode cX6_drawn 12 = .ok (.ifCond .lt 12, 3) := by decide +kernel
theorem dX6_drawn_15 : decode cX6_drawn 15 = .ok (.iload_n 3, 1) := by decide +kernel
theorem dX6_drawn_16 : decode cX6_drawn 16 = .ok (.ifCond .lt 8, 3) := by decide +kernel
theorem dX6_drawn_19 : decode cX6_drawn 19 = .ok (.iload_n 3, 1) := by decide +kernel
theorem dX6_drawn_20 : decode cX6_drawn 20 = .ok (.iconst 3, 1) := by decide +kernel
theorem dX6_drawn_21 : decode cX6_drawn 21 = .ok (.if_icmp .lt 6, 3) := by decide +kernel
theorem dX6_drawn_24 : decode cX6_drawn 24 = .ok (.bipush (-102), 2) := by decide +kernel
theorem dX6_drawn_26 : decode cX6_drawn 26 = .ok (.ireturn, 1) := by decide +kernel
theorem dX6_drawn_27 : decode cX6_drawn 27 = .ok (.aload_n 0, 1) := by decide +kernel
theorem dX6_drawn_28 : decode cX6_drawn 28 = .ok (.getfield 19, 3) := by decide +kernel
theorem dX6_drawn_31 : decode cX6_drawn 31 = .ok (.invokevirtual 98, 3) := by decide +kernel
theorem dX6_drawn_34 : decode cX6_drawn 34 = .ok (.ifCond .ne 6, 3) := by decide +kernel
theorem dX6_drawn_37 : decode cX6_drawn 37 = .ok (.bipush (-103), 2) := by decide +kernel
theorem dX6_drawn_39 : decode cX6_drawn 39 = .ok (.ireturn, 1) := by decide +kernel
theorem dX6_drawn_40 : decode cX6_drawn 40 = .ok (.iconst 0, 1) := by decide +kernel
theorem dX6_drawn_41 : decode cX6_drawn 41 = .ok (.istore 4, 2) := by decide +kernel
theorem dX6_drawn_43 : decode cX6_drawn 43 = .ok (.iconst 0, 1) := by decide +kernel
theorem dX6_drawn_44 : decode cX6_drawn 44 = .ok (.istore 5, 2) := by decide +kernel
theorem dX6_drawn_46 : decode cX6_drawn 46 = .ok (.aload_n 0, 1) := by decide +kernel
theorem dX6_drawn_47 : decode cX6_drawn 47 = .ok (.getfield 62, 3) := by decide +kernel
theorem dX6_drawn_50 : decode cX6_drawn 50 = .ok (.iload_n 2, 1) := by decide +kernel
theorem dX6_drawn_51 : decode cX6_drawn 51 = .ok (.invokevirtual 198, 3) := by decide +kernel
theorem dX6_drawn_54 : decode cX6_drawn 54 = .ok (.iconst 0, 1) := by decide +kernel
theorem dX6_drawn_55 : decode cX6_drawn 55 = .ok (.istore 6, 2) := by decide +kernel
theorem dX6_drawn_57 : decode cX6_drawn 57 = .ok (.iload 6, 2) := by decide +kernel
theorem dX6_drawn_59 : decode cX6_drawn 59 = .ok (.iload_n 1, 1) := by decide +kernel
theorem dX6_drawn_60 : decode cX6_drawn 60 = .ok (.if_icmp .ge 66, 3) := by decide +kernel
theorem dX6_drawn_63 : decode cX6_drawn 63 = .ok (.aload_n 0, 1) := by decide +kernel
theorem dX6_drawn_64 : decode cX6_drawn 64 = .ok (.invokevirtual 201, 3) := by decide +kernel
theorem dX6_drawn_67 : decode cX6_drawn 67 = .ok (.aload_n 0, 1) := by decide +kernel
theorem dX6_drawn_68 : decode cX6_drawn 68 = .ok (.getfield 62, 3) := by decide +kernel
theorem dX6_drawn_71 : decode cX6_drawn 71 = .ok (.sipush 256, 3) := by decide +kernel
theorem dX6_drawn_74 : decode cX6_drawn 74 = .ok (.invokevirtual 204, 3) := by decide +kernel
theorem dX6_drawn_77 : decode cX6_drawn 77 = .ok (.istore 7, 2) := by decide +kernel
theorem dX6_drawn_79 : decode cX6_drawn 79 = .ok (.aload_n 0, 1) := by decide +kernel
theorem dX6_drawn_80 : decode cX6_drawn 80 = .ok (.getfield 19, 3) := by decide +kernel
theorem dX6_drawn_83 : decode cX6_drawn 83 = .ok (.aload_n 0, 1) := by decide +kernel
theorem dX6_drawn_84 : decode cX6_drawn 84 = .ok (.getfield 55, 3) := by decide +kernel
theorem dX6_drawn_87 : decode cX6_drawn 87 = .ok (.iload 7, 2) := by decide +kernel
theorem dX6_drawn_89 : decode cX6_drawn 89 = .ok (.bipush 8, 2) := by decide +kernel
theorem dX6_drawn_91 : decode cX6_drawn 91 = .ok (.invokevirtual 157, 3) := by decide +kernel
theorem dX6_drawn_94 : decode cX6_drawn 94 = .ok (.istore 8, 2) := by decide +kernel
theorem dX6_drawn_96 : decode cX6_drawn 96 = .ok (.iload 4, 2) := by decide +kernel
theorem dX6_drawn_98 : decode cX6_drawn 98 = .ok (.iload 8, 2) := by decide +kernel
theorem dX6_drawn_100 : decode cX6_drawn 100 = .ok (.iadd, 1) := by decide +kernel
theorem dX6_drawn_101 : decode cX6_drawn 101 = .ok (.istore 4, 2) := by decide +kernel
theorem dX6_drawn_103 : decode cX6_drawn 103 = .ok (.iload 5, 2) := by decide +kernel
theorem dX6_drawn_105 : decode cX6_drawn 105 = .ok (.iload 8, 2) := by decide +kernel
theorem dX6_drawn_107 : decode cX6_drawn 107 = .ok (.iload 7, 2) := by decide +kernel
theorem dX6_drawn_109 : decode cX6_drawn 109 = .ok (.if_icmp .ne 7, 3) := by decide +kernel
theorem dX6_drawn_112 : decode cX6_drawn 112 = .ok (.iconst 1, 1) := by decide +kernel
theorem dX6_drawn_113 : decode cX6_drawn 113 = .ok (.goto 4, 3) := by decide +kernel
theorem dX6_drawn_116 : decode cX6_drawn 116 = .ok (.iconst 0, 1) := by decide +kernel
theorem dX6_drawn_117 : decode cX6_drawn 117 = .ok (.iadd, 1) := by decide +kernel
theorem dX6_drawn_118 : decode cX6_drawn 118 = .ok (.istore 5, 2) := by decide +kernel
theorem dX6_drawn_120 : decode cX6_drawn 120 = .ok (.iinc 6 1, 3) := by decide +kernel
theorem dX6_drawn_123 : decode cX6_drawn 123 = .ok (.goto (-66), 3) := by decide +kernel
theorem dX6_drawn_126 : decode cX6_drawn 126 = .ok (.iload_n 3, 1) := by decide +kernel
theorem dX6_drawn_127 : decode cX6_drawn 127 = .ok (.ifCond .ne 6, 3) := by decide +kernel
theorem dX6_drawn_130 : decode cX6_drawn 130 = .ok (.iload 4, 2) := by decide +kernel
theorem dX6_drawn_132 : decode cX6_drawn 132 = .ok (.ireturn, 1) := by decide +kernel
theorem dX6_drawn_133 : decode cX6_drawn 133 = .ok (.iload_n 3, 1) := by decide +kernel
theorem dX6_drawn_134 : decode cX6_drawn 134 = .ok (.iconst 1, 1) := by decide +kernel
theorem dX6_drawn_135 : decode cX6_drawn 135 = .ok (.if_icmp .ne 8, 3) := by decide +kernel
theorem dX6_drawn_138 : decode cX6_drawn 138 = .ok (.iload 5, 2) := by decide +kernel
theorem dX6_drawn_140 : decode cX6_drawn 140 = .ok (.goto 10, 3) := by decide +kernel
theorem dX6_drawn_143 : decode cX6_drawn 143 = .ok (.aload_n 0, 1) := by decide +kernel
theorem dX6_drawn_144 : decode cX6_drawn 144 = .ok (.getfield 62, 3) := by decide +kernel
theorem dX6_drawn_147 : decode cX6_drawn 147 = .ok (.invokevirtual 207, 3) := by decide +kernel
theorem dX6_drawn_150 : decode cX6_drawn 150 = .ok (.ireturn, 1) := by decide +kernel
theorem dX6_image_0 : decode cX6_image 0 = .ok (.aload_n 0, 1) := by decide +kernel
theorem dX6_image_1 : decode cX6_image 1 = .ok (.getfield 19, 3) := by decide +kernel
theorem dX6_image_4 : decode cX6_image 4 = .ok (.invokevirtual 98, 3) := by decide +kernel
theorem dX6_image_7 : decode cX6_image 7 = .ok (.ifCond .ne 6, 3) := by decide +kernel
theorem dX6_image_10 : decode cX6_image 10 = .ok (.bipush (-103), 2) := by decide +kernel
theorem dX6_image_12 : decode cX6_image 12 = .ok (.ireturn, 1) := by decide +kernel
theorem dX6_image_13 : decode cX6_image 13 = .ok (.aload_n 0, 1) := by decide +kernel
theorem dX6_image_14 : decode cX6_image 14 = .ok (.getfield 23, 3) := by decide +kernel
theorem dX6_image_17 : decode cX6_image 17 = .ok (.aload_n 0, 1) := by decide +kernel
theorem dX6_image_18 : decode cX6_image 18 = .ok (.getfield 19, 3) := by decide +kernel
theorem dX6_image_21 : decode cX6_image 21 = .ok (.invokevirtual 210, 3) := by decide +kernel
theorem dX6_image_24 : decode cX6_image 24 = .ok (.aload_n 0, 1) := by decide +kernel
theorem dX6_image_25 : decode cX6_image 25 = .ok (.getfield 45, 3) := by decide +kernel
theorem dX6_image_28 : decode cX6_image 28 = .ok (.aload_n 0, 1) := by decide +kernel
theorem dX6_image_29 : decode cX6_image 29 = .ok (.getfield 41, 3) := by decide +kernel
theorem dX6_image_32 : decode cX6_image 32 = .ok (.invokevirtual 213, 3) := by decide +kernel
theorem dX6_image_35 : decode cX6_image 35 = .ok (.iconst 0, 1) := by decide +kernel
theorem dX6_image_36 : decode cX6_image 36 = .ok (.istore_n 1, 1) := by decide +kernel
theorem dX6_image_37 : decode cX6_image 37 = .ok (.iload_n 1, 1) := by decide +kernel
theorem dX6_image_38 : decode cX6_image 38 = .ok (.iconst 3, 1) := by decide +kernel
theorem dX6_image_39 : decode cX6_image 39 = .ok (.if_icmp .ge 24, 3) := by decide +kernel
theorem dX6_image_42 : decode cX6_image 42 = .ok (.aload_n 0, 1) := by decide +kernel
theorem dX6_image_43 : decode cX6_image 43 = .ok (.getfield 32, 3) := by decide +kernel
theorem dX6_image_46 : decode cX6_image 46 = .ok (.iload_n 1, 1) := by decide +kernel
theorem dX6_image_47 : decode cX6_image 47 = .ok (.aaload, 1) := by decide +kernel
theorem dX6_image_48 : decode cX6_image 48 = .ok (.aload_n 0, 1) := by decide +kernel
theorem dX6_image_49 : decode cX6_image 49 = .ok (.getfield 28, 3) := by decide +kernel
theorem dX6_image_52 : decode cX6_image 52 = .ok (.iload_n 1, 1) := by decide +kernel
theorem dX6_image_53 : decode cX6_image 53 = .ok (.aaload, 1) := by decide +kernel
theorem dX6_image_54 : decode cX6_image 54 = .ok (.invokevirtual 165, 3) := by decide +kernel
theorem dX6_image_57 : decode cX6_image 57 = .ok (.iinc 1 1, 3) := by decide +kernel
theorem dX6_image_60 : decode cX6_image 60 = .ok (.goto (-23), 3) := by decide +kernel
theorem dX6_image_63 : decode cX6_image 63 = .ok (.aload_n 0, 1) := by decide +kernel
theorem dX6_image_64 : decode cX6_image 64 = .ok (.iconst 1, 1) := by decide +kernel
theorem dX6_image_65 : decode cX6_image 65 = .ok (.putfield 66, 3) := by decide +kernel
theorem dX6_image_68 : decode cX6_image 68 = .ok (.aload_n 0, 1) := by decide +kernel
theorem dX6_image_69 : decode cX6_image 69 = .ok (.getfield 19, 3) := by decide +kernel
theorem dX6_image_72 : decode cX6_image 72 = .ok (.invokevirtual 98, 3) := by decide +kernel
theorem dX6_image_75 : decode cX6_image 75 = .ok (.ireturn, 1) := by decide +kernel
theorem dX6_restore_0 : decode cX6_restore 0 = .ok (.aload_n 0, 1) := by decide +kernel
theorem dX6_restore_1 : decode cX6_restore 1 = .ok (.getfield 66, 3) := by decide +kernel
theorem dX6_restore_4 : decode cX6_restore 4 = .ok (.ifCond .ne 6, 3) := by decide +kernel
theorem dX6_restore_7 : decode cX6_restore 7 = .ok (.bipush (-103), 2) := by decide +kernel
theorem dX6_restore_9 : decode cX6_restore 9 = .ok (.ireturn, 1) := by decide +kernel
theorem dX6_restore_10 : decode cX6_restore 10 = .ok (.aload_n 0, 1) := by decide +kernel
theorem dX6_restore_11 : decode cX6_restore 11 = .ok (.getfield 19, 3) := by decide +kernel
theorem dX6_restore_14 : decode cX6_restore 14 = .ok (.aload_n 0, 1) := by decide +kernel
theorem dX6_restore_15 : decode cX6_restore 15 = .ok (.getfield 23, 3) := by decide +kernel
theorem dX6_restore_18 : decode cX6_restore 18 = .ok (.invokevirtual 210, 3) := by decide +kernel
theorem dX6_restore_21 : decode cX6_restore 21 = .ok (.aload_n 0, 1) := by decide +kernel
theorem dX6_restore_22 : decode cX6_restore 22 = .ok (.getfield 41, 3) := by decide +kernel
theorem dX6_restore_25 : decode cX6_restore 25 = .ok (.aload_n 0, 1) := by decide +kernel
theorem dX6_restore_26 : decode cX6_restore 26 = .ok (.getfield 45, 3) := by decide +kernel
theorem dX6_restore_29 : decode cX6_restore 29 = .ok (.invokevirtual 213, 3) := by decide +kernel
theorem dX6_restore_32 : decode cX6_restore 32 = .ok (.iconst 0, 1) := by decide +kernel
theorem dX6_restore_33 : decode cX6_restore 33 = .ok (.istore_n 1, 1) := by decide +kernel
theorem dX6_restore_34 : decode cX6_restore 34 = .ok (.iload_n 1, 1) := by decide +kernel
theorem dX6_restore_35 : decode cX6_restore 35 = .ok (.iconst 3, 1) := by decide +kernel
theorem dX6_restore_36 : decode cX6_restore 36 = .ok (.if_icmp .ge 24, 3) := by decide +kernel
theorem dX6_restore_39 : decode cX6_restore 39 = .ok (.aload_n 0, 1) := by decide +kernel
theorem dX6_restore_40 : decode cX6_restore 40 = .ok (.getfield 28, 3) := by decide +kernel
theorem dX6_restore_43 : decode cX6_restore 43 = .ok (.iload_n 1, 1) := by decide +kernel
theorem dX6_restore_44 : decode cX6_restore 44 = .ok (.aaload, 1) := by decide +kernel
theorem dX6_restore_45 : decode cX6_restore 45 = .ok (.aload_n 0, 1) := by decide +kernel
theorem dX6_restore_46 : decode cX6_restore 46 = .ok (.getfield 32, 3) := by decide +kernel
theorem dX6_restore_49 : decode cX6_restore 49 = .ok (.iload_n 1, 1) := by decide +kernel
theorem dX6_restore_50 : decode cX6_restore 50 = .ok (.aaload, 1) := by decide +kernel
theorem dX6_restore_51 : decode cX6_restore 51 = .ok (.invokevirtual 165, 3) := by decide +kernel
theorem dX6_restore_54 : decode cX6_restore 54 = .ok (.iinc 1 1, 3) := by decide +kernel
theorem dX6_restore_57 : decode cX6_restore 57 = .ok (.goto (-23), 3) := by decide +kernel
theorem dX6_restore_60 : decode cX6_restore 60 = .ok (.aload_n 0, 1) := by decide +kernel
theorem dX6_restore_61 : decode cX6_restore 61 = .ok (.getfield 19, 3) := by decide +kernel
theorem dX6_restore_64 : decode cX6_restore 64 = .ok (.invokevirtual 98, 3) := by decide +kernel
theorem dX6_restore_67 : decode cX6_restore 67 = .ok (.ireturn, 1) := by decide +kernel
theorem dX6_count_0 : decode cX6_count 0 = .ok (.iload_n 1, 1) := by decide +kernel
theorem dX6_count_1 : decode cX6_count 1 = .ok (.tableswitch 93 0 6 #[43, 51, 59, 67, 72, 80, 88], 43) := by decide +kernel
theorem dX6_count_44 : decode cX6_count 44 = .ok (.aload_n 0, 1) := by decide +kernel
theorem dX6_count_45 : decode cX6_count 45 = .ok (.getfield 19, 3) := by decide +kernel
theorem dX6_count_48 : decode cX6_count 48 = .ok (.invokevirtual 98, 3) := by decide +kernel
theorem dX6_count_51 : decode cX6_count 51 = .ok (.ireturn, 1) := by decide +kernel
theorem dX6_count_52 : decode cX6_count 52 = .ok (.aload_n 0, 1) := by decide +kernel
theorem dX6_count_53 : decode cX6_count 53 = .ok (.getfield 19, 3) := by decide +kernel
theorem dX6_count_56 : decode cX6_count 56 = .ok (.invokevirtual 216, 3) := by decide +kernel
theorem dX6_count_59 : decode cX6_count 59 = .ok (.ireturn, 1) := by decide +kernel
theorem dX6_count_60 : decode cX6_count 60 = .ok (.aload_n 0, 1) := by decide +kernel
theorem dX6_count_61 : decode cX6_count 61 = .ok (.getfield 19, 3) := by decide +kernel
theorem dX6_count_64 : decode cX6_count 64 = .ok (.invokevirtual 219, 3) := by decide +kernel
theorem dX6_count_67 : decode cX6_count 67 = .ok (.ireturn, 1) := by decide +kernel
theorem dX6_count_68 : decode cX6_count 68 = .ok (.aload_n 0, 1) := by decide +kernel
theorem dX6_count_69 : decode cX6_count 69 = .ok (.invokevirtual 222, 3) := by decide +kernel
theorem dX6_count_72 : decode cX6_count 72 = .ok (.ireturn, 1) := by decide +kernel
theorem dX6_count_73 : decode cX6_count 73 = .ok (.aload_n 0, 1) := by decide +kernel
theorem dX6_count_74 : decode cX6_count 74 = .ok (.getfield 41, 3) := by decide +kernel
theorem dX6_count_77 : decode cX6_count 77 = .ok (.invokevirtual 190, 3) := by decide +kernel
theorem dX6_count_80 : decode cX6_count 80 = .ok (.ireturn, 1) := by decide +kernel
theorem dX6_count_81 : decode cX6_count 81 = .ok (.aload_n 0, 1) := by decide +kernel
theorem dX6_count_82 : decode cX6_count 82 = .ok (.getfield 12, 3) := by decide +kernel
theorem dX6_count_85 : decode cX6_count 85 = .ok (.invokevirtual 78, 3) := by decide +kernel
theorem dX6_count_88 : decode cX6_count 88 = .ok (.ireturn, 1) := by decide +kernel
theorem dX6_count_89 : decode cX6_count 89 = .ok (.aload_n 0, 1) := by decide +kernel
theorem dX6_count_90 : decode cX6_count 90 = .ok (.getfield 70, 3) := by decide +kernel
theorem dX6_count_93 : decode cX6_count 93 = .ok (.ireturn, 1) := by decide +kernel
theorem dX6_count_94 : decode cX6_count 94 = .ok (.bipush (-102), 2) := by decide +kernel
theorem dX6_count_96 : decode cX6_count 96 = .ok (.ireturn, 1) := by decide +kernel
theorem dX6_digest_0 : decode cX6_digest 0 = .ok (.ldc2_w 225, 3) := by decide +kernel
theorem dX6_digest_3 : decode cX6_digest 3 = .ok (.lstore_n 1, 1) := by decide +kernel
theorem dX6_digest_4 : decode cX6_digest 4 = .ok (.iconst 0, 1) := by decide +kernel
theorem dX6_digest_5 : decode cX6_digest 5 = .ok (.istore_n 3, 1) := by decide +kernel
theorem dX6_digest_6 : decode cX6_digest 6 = .ok (.iload_n 3, 1) := by decide +kernel
theorem dX6_digest_7 : decode cX6_digest 7 = .ok (.aload_n 0, 1) := by decide +kernel
theorem dX6_digest_8 : decode cX6_digest 8 = .ok (.getfield 19, 3) := by decide +kernel
theorem dX6_digest_11 : decode cX6_digest 11 = .ok (.invokevirtual 98, 3) := by decide +kernel
theorem dX6_digest_14 : decode cX6_digest 14 = .ok (.if_icmp .ge 40, 3) := by decide +kernel
theorem dX6_digest_17 : decode cX6_digest 17 = .ok (.iconst 0, 1) := by decide +kernel
theorem dX6_digest_18 : decode cX6_digest 18 = .ok (.istore 4, 2) := by decide +kernel
theorem dX6_digest_20 : decode cX6_digest 20 = .ok (.iload 4, 2) := by decide +kernel
theorem dX6_digest_22 : decode cX6_digest 22 = .ok (.bipush 8, 2) := by decide +kernel
theorem dX6_digest_24 : decode cX6_digest 24 = .ok (.if_icmp .ge 24, 3) := by decide +kernel
theorem dX6_digest_27 : decode cX6_digest 27 = .ok (.ldc2_w 227, 3) := by decide +kernel
theorem dX6_digest_30 : decode cX6_digest 30 = .ok (.lload_n 1, 1) := by decide +kernel
theorem dX6_digest_31 : decode cX6_digest 31 = .ok (.lmul, 1) := by decide +kernel
theorem dX6_digest_32 : decode cX6_digest 32 = .ok (.aload_n 0, 1) := by decide +kernel
theorem dX6_digest_33 : decode cX6_digest 33 = .ok (.iload_n 3, 1) := by decide +kernel
theorem dX6_digest_34 : decode cX6_digest 34 = .ok (.iload 4, 2) := by decide +kernel
theorem dX6_digest_36 : decode cX6_digest 36 = .ok (.invokevirtual 229, 3) := by decide +kernel
theorem dX6_digest_39 : decode cX6_digest 39 = .ok (.i2l, 1) := by decide +kernel
theorem dX6_digest_40 : decode cX6_digest 40 = .ok (.ladd, 1) := by decide +kernel
theorem dX6_digest_41 : decode cX6_digest 41 = .ok (.lstore_n 1, 1) := by decide +kernel
theorem dX6_digest_42 : decode cX6_digest 42 = .ok (.iinc 4 1, 3) := by decide +kernel
theorem dX6_digest_45 : decode cX6_digest 45 = .ok (.goto (-25), 3) := by decide +kernel
theorem dX6_digest_48 : decode cX6_digest 48 = .ok (.iinc 3 1, 3) := by decide +kernel
theorem dX6_digest_51 : decode cX6_digest 51 = .ok (.goto (-45), 3) := by decide +kernel
theorem dX6_digest_54 : decode cX6_digest 54 = .ok (.aload_n 0, 1) := by decide +kernel
theorem dX6_digest_55 : decode cX6_digest 55 = .ok (.getfield 19, 3) := by decide +kernel
theorem dX6_digest_58 : decode cX6_digest 58 = .ok (.invokevirtual 98, 3) := by decide +kernel
theorem dX6_digest_61 : decode cX6_digest 61 = .ok (.ifCond .le 23, 3) := by decide +kernel
theorem dX6_digest_64 : decode cX6_digest 64 = .ok (.iconst 0, 1) := by decide +kernel
theorem dX6_digest_65 : decode cX6_digest 65 = .ok (.istore_n 3, 1) := by decide +kernel
theorem dX6_digest_66 : decode cX6_digest 66 = .ok (.iload_n 3, 1) := by decide +kernel
theorem dX6_digest_67 : decode cX6_digest 67 = .ok (.iconst 3, 1) := by decide +kernel
theorem dX6_digest_68 : decode cX6_digest 68 = .ok (.if_icmp .ge 16, 3) := by decide +kernel
theorem dX6_digest_71 : decode cX6_digest 71 = .ok (.aload_n 0, 1) := by decide +kernel
theorem dX6_digest_72 : decode cX6_digest 72 = .ok (.lload_n 1, 1) := by decide +kernel
theorem dX6_digest_73 : decode cX6_digest 73 = .ok (.iload_n 3, 1) := by decide +kernel
theorem dX6_digest_74 : decode cX6_digest 74 = .ok (.invokevirtual 232, 3) := by decide +kernel
theorem dX6_digest_77 : decode cX6_digest 77 = .ok (.lstore_n 1, 1) := by decide +kernel
theorem dX6_digest_78 : decode cX6_digest 78 = .ok (.iinc 3 1, 3) := by decide +kernel
theorem dX6_digest_81 : decode cX6_digest 81 = .ok (.goto (-15), 3) := by decide +kernel
theorem dX6_digest_84 : decode cX6_digest 84 = .ok (.iconst 0, 1) := by decide +kernel
theorem dX6_digest_85 : decode cX6_digest 85 = .ok (.istore_n 3, 1) := by decide +kernel
theorem dX6_digest_86 : decode cX6_digest 86 = .ok (.iload_n 3, 1) := by decide +kernel
theorem dX6_digest_87 : decode cX6_digest 87 = .ok (.aload_n 0, 1) := by decide +kernel
theorem dX6_digest_88 : decode cX6_digest 88 = .ok (.getfield 12, 3) := by decide +kernel
theorem dX6_digest_91 : decode cX6_digest 91 = .ok (.invokevirtual 78, 3) := by decide +kernel
theorem dX6_digest_94 : decode cX6_digest 94 = .ok (.if_icmp .ge 25, 3) := by decide +kernel
theorem dX6_digest_97 : decode cX6_digest 97 = .ok (.ldc2_w 227, 3) := by decide +kernel
theorem dX6_digest_100 : decode cX6_digest 100 = .ok (.lload_n 1, 1) := by decide +kernel
theorem dX6_digest_101 : decode cX6_digest 101 = .ok (.lmul, 1) := by decide +kernel
theorem dX6_digest_102 : decode cX6_digest 102 = .ok (.aload_n 0, 1) := by decide +kernel
theorem dX6_digest_103 : decode cX6_digest 103 = .ok (.getfield 12, 3) := by decide +kernel
theorem dX6_digest_106 : decode cX6_digest 106 = .ok (.iload_n 3, 1) := by decide +kernel
theorem dX6_digest_107 : decode cX6_digest 107 = .ok (.invokevirtual 105, 3) := by decide +kernel
theorem dX6_digest_110 : decode cX6_digest 110 = .ok (.i2l, 1) := by decide +kernel
theorem dX6_digest_111 : decode cX6_digest 111 = .ok (.ladd, 1) := by decide +kernel
theorem dX6_digest_112 : decode cX6_digest 112 = .ok (.lstore_n 1, 1) := by decide +kernel
theorem dX6_digest_113 : decode cX6_digest 113 = .ok (.iinc 3 1, 3) := by decide +kernel
theorem dX6_digest_116 : decode cX6_digest 116 = .ok (.goto (-30), 3) := by decide +kernel
theorem dX6_digest_119 : decode cX6_digest 119 = .ok (.iconst 0, 1) := by decide +kernel
theorem dX6_digest_120 : decode cX6_digest 120 = .ok (.istore_n 3, 1) := by decide +kernel
theorem dX6_digest_121 : decode cX6_digest 121 = .ok (.iload_n 3, 1) := by decide +kernel
theorem dX6_digest_122 : decode cX6_digest 122 = .ok (.bipush 7, 2) := by decide +kernel
theorem dX6_digest_124 : decode cX6_digest 124 = .ok (.if_icmp .ge 22, 3) := by decide +kernel
theorem dX6_digest_127 : decode cX6_digest 127 = .ok (.ldc2_w 227, 3) := by decide +kernel
theorem dX6_digest_130 : decode cX6_digest 130 = .ok (.lload_n 1, 1) := by decide +kernel
theorem dX6_digest_131 : decode cX6_digest 131 = .ok (.lmul, 1) := by decide +kernel
theorem dX6_digest_132 : decode cX6_digest 132 = .ok (.aload_n 0, 1) := by decide +kernel
theorem dX6_digest_133 : decode cX6_digest 133 = .ok (.iload_n 3, 1) := by decide +kernel
theorem dX6_digest_134 : decode cX6_digest 134 = .ok (.invokevirtual 236, 3) := by decide +kernel
theorem dX6_digest_137 : decode cX6_digest 137 = .ok (.i2l, 1) := by decide +kernel
theorem dX6_digest_138 : decode cX6_digest 138 = .ok (.ladd, 1) := by decide +kernel
theorem dX6_digest_139 : decode cX6_digest 139 = .ok (.lstore_n 1, 1) := by decide +kernel
theorem dX6_digest_140 : decode cX6_digest 140 = .ok (.iinc 3 1, 3) := by decide +kernel
theorem dX6_digest_143 : decode cX6_digest 143 = .ok (.goto (-22), 3) := by decide +kernel
theorem dX6_digest_146 : decode cX6_digest 146 = .ok (.lload_n 1, 1) := by decide +kernel
theorem dX6_digest_147 : decode cX6_digest 147 = .ok (.lreturn, 1) := by decide +kernel
theorem dX6_digestOfWord_0 : decode cX6_digestOfWord 0 = .ok (.lload_n 1, 1) := by decide +kernel
theorem dX6_digestOfWord_1 : decode cX6_digestOfWord 1 = .ok (.lstore 4, 2) := by decide +kernel
theorem dX6_digestOfWord_3 : decode cX6_digestOfWord 3 = .ok (.iconst 0, 1) := by decide +kernel
theorem dX6_digestOfWord_4 : decode cX6_digestOfWord 4 = .ok (.istore 6, 2) := by decide +kernel
theorem dX6_digestOfWord_6 : decode cX6_digestOfWord 6 = .ok (.iload 6, 2) := by decide +kernel
theorem dX6_digestOfWord_8 : decode cX6_digestOfWord 8 = .ok (.aload_n 0, 1) := by decide +kernel
theorem dX6_digestOfWord_9 : decode cX6_digestOfWord 9 = .ok (.getfield 28, 3) := by decide +kernel
theorem dX6_digestOfWord_12 : decode cX6_digestOfWord 12 = .ok (.iload_n 3, 1) := by decide +kernel
theorem dX6_digestOfWord_13 : decode cX6_digestOfWord 13 = .ok (.aaload, 1) := by decide +kernel
theorem dX6_digestOfWord_14 : decode cX6_digestOfWord 14 = .ok (.invokevirtual 115, 3) := by decide +kernel
theorem dX6_digestOfWord_17 : decode cX6_digestOfWord 17 = .ok (.if_icmp .ge 26, 3) := by decide +kernel
theorem dX6_digestOfWord_20 : decode cX6_digestOfWord 20 = .ok (.ldc2_w 227, 3) := by decide +kernel
theorem dX6_digestOfWord_23 : decode cX6_digestOfWord 23 = .ok (.lload 4, 2) := by decide +kernel
theorem dX6_digestOfWord_25 : decode cX6_digestOfWord 25 = .ok (.lmul, 1) := by decide +kernel
theorem dX6_digestOfWord_26 : decode cX6_digestOfWord 26 = .ok (.aload_n 0, 1) := by decide +kernel
theorem dX6_digestOfWord_27 : decode cX6_digestOfWord 27 = .ok (.iload_n 3, 1) := by decide +kernel
theorem dX6_digestOfWord_28 : decode cX6_digestOfWord 28 = .ok (.iload 6, 2) := by decide +kernel
theorem dX6_digestOfWord_30 : decode cX6_digestOfWord 30 = .ok (.invokevirtual 239, 3) := by decide +kernel
theorem dX6_digestOfWord_33 : decode cX6_digestOfWord 33 = .ok (.i2l, 1) := by decide +kernel
theorem dX6_digestOfWord_34 : decode cX6_digestOfWord 34 = .ok (.ladd, 1) := by decide +kernel
theorem dX6_digestOfWord_35 : decode cX6_digestOfWord 35 = .ok (.lstore 4, 2) := by decide +kernel
theorem dX6_digestOfWord_37 : decode cX6_digestOfWord 37 = .ok (.iinc 6 1, 3) := by decide +kernel
theorem dX6_digestOfWord_40 : decode cX6_digestOfWord 40 = .ok (.goto (-34), 3) := by decide +kernel
theorem dX6_digestOfWord_43 : decode cX6_digestOfWord 43 = .ok (.ldc2_w 227, 3) := by decide +kernel
theorem dX6_digestOfWord_46 : decode cX6_digestOfWord 46 = .ok (.lload 4, 2) := by decide +kernel
theorem dX6_digestOfWord_48 : decode cX6_digestOfWord 48 = .ok (.lmul, 1) := by decide +kernel
theorem dX6_digestOfWord_49 : decode cX6_digestOfWord 49 = .ok (.aload_n 0, 1) := by decide +kernel
theorem dX6_digestOfWord_50 : decode cX6_digestOfWord 50 = .ok (.iload_n 3, 1) := by decide +kernel
theorem dX6_digestOfWord_51 : decode cX6_digestOfWord 51 = .ok (.invokevirtual 242, 3) := by decide +kernel
theorem dX6_digestOfWord_54 : decode cX6_digestOfWord 54 = .ok (.i2l, 1) := by decide +kernel
theorem dX6_digestOfWord_55 : decode cX6_digestOfWord 55 = .ok (.ladd, 1) := by decide +kernel
theorem dX6_digestOfWord_56 : decode cX6_digestOfWord 56 = .ok (.lstore 4, 2) := by decide +kernel
theorem dX6_digestOfWord_58 : decode cX6_digestOfWord 58 = .ok (.iconst 0, 1) := by decide +kernel
theorem dX6_digestOfWord_59 : decode cX6_digestOfWord 59 = .ok (.istore 6, 2) := by decide +kernel
theorem dX6_digestOfWord_61 : decode cX6_digestOfWord 61 = .ok (.iload 6, 2) := by decide +kernel
theorem dX6_digestOfWord_63 : decode cX6_digestOfWord 63 = .ok (.iconst 3, 1) := by decide +kernel
theorem dX6_digestOfWord_64 : decode cX6_digestOfWord 64 = .ok (.if_icmp .gt 26, 3) := by decide +kernel
theorem dX6_digestOfWord_67 : decode cX6_digestOfWord 67 = .ok (.ldc2_w 227, 3) := by decide +kernel
theorem dX6_digestOfWord_70 : decode cX6_digestOfWord 70 = .ok (.lload 4, 2) := by decide +kernel
theorem dX6_digestOfWord_72 : decode cX6_digestOfWord 72 = .ok (.lmul, 1) := by decide +kernel
theorem dX6_digestOfWord_73 : decode cX6_digestOfWord 73 = .ok (.aload_n 0, 1) := by decide +kernel
theorem dX6_digestOfWord_74 : decode cX6_digestOfWord 74 = .ok (.iload_n 3, 1) := by decide +kernel
theorem dX6_digestOfWord_75 : decode cX6_digestOfWord 75 = .ok (.iload 6, 2) := by decide +kernel
theorem dX6_digestOfWord_77 : decode cX6_digestOfWord 77 = .ok (.invokevirtual 245, 3) := by decide +kernel
theorem dX6_digestOfWord_80 : decode cX6_digestOfWord 80 = .ok (.i2l, 1) := by decide +kernel
theorem dX6_digestOfWord_81 : decode cX6_digestOfWord 81 = .ok (.ladd, 1) := by decide +kernel
theorem dX6_digestOfWord_82 : decode cX6_digestOfWord 82 = .ok (.lstore 4, 2) := by decide +kernel
theorem dX6_digestOfWord_84 : decode cX6_digestOfWord 84 = .ok (.iinc 6 1, 3) := by decide +kernel
theorem dX6_digestOfWord_87 : decode cX6_digestOfWord 87 = .ok (.goto (-26), 3) := by decide +kernel
theorem dX6_digestOfWord_90 : decode cX6_digestOfWord 90 = .ok (.ldc2_w 227, 3) := by decide +kernel
theorem dX6_digestOfWord_93 : decode cX6_digestOfWord 93 = .ok (.lload 4, 2) := by decide +kernel
theorem dX6_digestOfWord_95 : decode cX6_digestOfWord 95 = .ok (.lmul, 1) := by decide +kernel
theorem dX6_digestOfWord_96 : decode cX6_digestOfWord 96 = .ok (.aload_n 0, 1) := by decide +kernel
theorem dX6_digestOfWord_97 : decode cX6_digestOfWord 97 = .ok (.iload_n 3, 1) := by decide +kernel
theorem dX6_digestOfWord_98 : decode cX6_digestOfWord 98 = .ok (.iconst 0, 1) := by decide +kernel
theorem dX6_digestOfWord_99 : decode cX6_digestOfWord 99 = .ok (.bipush 6, 2) := by decide +kernel
theorem dX6_digestOfWord_101 : decode cX6_digestOfWord 101 = .ok (.invokevirtual 248, 3) := by decide +kernel
theorem dX6_digestOfWord_104 : decode cX6_digestOfWord 104 = .ok (.i2l, 1) := by decide +kernel
theorem dX6_digestOfWord_105 : decode cX6_digestOfWord 105 = .ok (.ladd, 1) := by decide +kernel
theorem dX6_digestOfWord_106 : decode cX6_digestOfWord 106 = .ok (.lstore 4, 2) := by decide +kernel
theorem dX6_digestOfWord_108 : decode cX6_digestOfWord 108 = .ok (.ldc2_w 227, 3) := by decide +kernel
theorem dX6_digestOfWord_111 : decode cX6_digestOfWord 111 = .ok (.lload 4, 2) := by decide +kernel
theorem dX6_digestOfWord_113 : decode cX6_digestOfWord 113 = .ok (.lmul, 1) := by decide +kernel
theorem dX6_digestOfWord_114 : decode cX6_digestOfWord 114 = .ok (.aload_n 0, 1) := by decide +kernel
theorem dX6_digestOfWord_115 : decode cX6_digestOfWord 115 = .ok (.iload_n 3, 1) := by decide +kernel
theorem dX6_digestOfWord_116 : decode cX6_digestOfWord 116 = .ok (.iconst 5, 1) := by decide +kernel
theorem dX6_digestOfWord_117 : decode cX6_digestOfWord 117 = .ok (.bipush 6, 2) := by decide +kernel
theorem dX6_digestOfWord_119 : decode cX6_digestOfWord 119 = .ok (.invokevirtual 248, 3) := by decide +kernel
theorem dX6_digestOfWord_122 : decode cX6_digestOfWord 122 = .ok (.i2l, 1) := by decide +kernel
theorem dX6_digestOfWord_123 : decode cX6_digestOfWord 123 = .ok (.ladd, 1) := by decide +kernel
theorem dX6_digestOfWord_124 : decode cX6_digestOfWord 124 = .ok (.lreturn, 1) := by decide +kernel
theorem dX6_lettersOfAllWords_0 : decode cX6_lettersOfAllWords 0 = .ok (.iconst 0, 1) := by decide +kernel
theorem dX6_lettersOfAllWords_1 : decode cX6_lettersOfAllWords 1 = .ok (.istore_n 1, 1) := by decide +kernel
theorem dX6_lettersOfAllWords_2 : decode cX6_lettersOfAllWords 2 = .ok (.iconst 0, 1) := by decide +kernel
theorem dX6_lettersOfAllWords_3 : decode cX6_lettersOfAllWords 3 = .ok (.istore_n 2, 1) := by decide +kernel
theorem dX6_lettersOfAllWords_4 : decode cX6_lettersOfAllWords 4 = .ok (.iload_n 2, 1) := by decide +kernel
theorem dX6_lettersOfAllWords_5 : decode cX6_lettersOfAllWords 5 = .ok (.iconst 3, 1) := by decide +kernel
theorem dX6_lettersOfAllWords_6 : decode cX6_lettersOfAllWords 6 = .ok (.if_icmp .ge 21, 3) := by decide +kernel
theorem dX6_lettersOfAllWords_9 : decode cX6_lettersOfAllWords 9 = .ok (.iload_n 1, 1) := by decide +kernel
theorem dX6_lettersOfAllWords_10 : decode cX6_lettersOfAllWords 10 = .ok (.aload_n 0, 1) := by decide +kernel
theorem dX6_lettersOfAllWords_11 : decode cX6_lettersOfAllWords 11 = .ok (.getfield 28, 3) := by decide +kernel
theorem dX6_lettersOfAllWords_14 : decode cX6_lettersOfAllWords 14 = .ok (.iload_n 2, 1) := by decide +kernel
theorem dX6_lettersOfAllWords_15 : decode cX6_lettersOfAllWords 15 = .ok (.aaload, 1) := by decide +kernel
theorem dX6_lettersOfAllWords_16 : decode cX6_lettersOfAllWords 16 = .ok (.invokevirtual 115, 3) := by decide +kernel
theorem dX6_lettersOfAllWords_19 : decode cX6_lettersOfAllWords 19 = .ok (.iadd, 1) := by decide +kernel
theorem dX6_lettersOfAllWords_20 : decode cX6_lettersOfAllWords 20 = .ok (.istore_n 1, 1) := by decide +kernel
theorem dX6_lettersOfAllWords_21 : decode cX6_lettersOfAllWords 21 = .ok (.iinc 2 1, 3) := by decide +kernel
theorem dX6_lettersOfAllWords_24 : decode cX6_lettersOfAllWords 24 = .ok (.goto (-20), 3) := by decide +kernel
theorem dX6_lettersOfAllWords_27 : decode cX6_lettersOfAllWords 27 = .ok (.iload_n 1, 1) := by decide +kernel
theorem dX6_lettersOfAllWords_28 : decode cX6_lettersOfAllWords 28 = .ok (.ireturn, 1) := by decide +kernel
theorem dX6_isWordOnPage_0 : decode cX6_isWordOnPage 0 = .ok (.aload_n 0, 1) := by decide +kernel
theorem dX6_isWordOnPage_1 : decode cX6_isWordOnPage 1 = .ok (.getfield 12, 3) := by decide +kernel
theorem dX6_isWordOnPage_4 : decode cX6_isWordOnPage 4 = .ok (.invokevirtual 78, 3) := by decide +kernel
theorem dX6_isWordOnPage_7 : decode cX6_isWordOnPage 7 = .ok (.bipush 8, 2) := by decide +kernel
theorem dX6_isWordOnPage_9 : decode cX6_isWordOnPage 9 = .ok (.if_icmp .le 5, 3) := by decide +kernel
theorem dX6_isWordOnPage_12 : decode cX6_isWordOnPage 12 = .ok (.iconst 0, 1) := by decide +kernel
theorem dX6_isWordOnPage_13 : decode cX6_isWordOnPage 13 = .ok (.ireturn, 1) := by decide +kernel
theorem dX6_isWordOnPage_14 : decode cX6_isWordOnPage 14 = .ok (.iconst 0, 1) := by decide +kernel
theorem dX6_isWordOnPage_15 : decode cX6_isWordOnPage 15 = .ok (.istore_n 1, 1) := by decide +kernel
theorem dX6_isWordOnPage_16 : decode cX6_isWordOnPage 16 = .ok (.iload_n 1, 1) := by decide +kernel
theorem dX6_isWordOnPage_17 : decode cX6_isWordOnPage 17 = .ok (.aload_n 0, 1) := by decide +kernel
theorem dX6_isWordOnPage_18 : decode cX6_isWordOnPage 18 = .ok (.getfield 12, 3) := by decide +kernel
theorem dX6_isWordOnPage_21 : decode cX6_isWordOnPage 21 = .ok (.invokevirtual 78, 3) := by decide +kernel
theorem dX6_isWordOnPage_24 : decode cX6_isWordOnPage 24 = .ok (.if_icmp .ge 35, 3) := by decide +kernel
theorem dX6_isWordOnPage_27 : decode cX6_isWordOnPage 27 = .ok (.aload_n 0, 1) := by decide +kernel
theorem dX6_isWordOnPage_28 : decode cX6_isWordOnPage 28 = .ok (.getfield 19, 3) := by decide +kernel
theorem dX6_isWordOnPage_31 : decode cX6_isWordOnPage 31 = .ok (.aload_n 0, 1) := by decide +kernel
theorem dX6_isWordOnPage_32 : decode cX6_isWordOnPage 32 = .ok (.getfield 12, 3) := by decide +kernel
theorem dX6_isWordOnPage_35 : decode cX6_isWordOnPage 35 = .ok (.iload_n 1, 1) := by decide +kernel
theorem dX6_isWordOnPage_36 : decode cX6_isWordOnPage 36 = .ok (.invokevirtual 105, 3) := by decide +kernel
theorem dX6_isWordOnPage_39 : decode cX6_isWordOnPage 39 = .ok (.invokestatic 109, 3) := by decide +kernel
theorem dX6_isWordOnPage_42 : decode cX6_isWordOnPage 42 = .ok (.invokestatic 252, 3) := by decide +kernel
theorem dX6_isWordOnPage_45 : decode cX6_isWordOnPage 45 = .ok (.invokevirtual 116, 3) := by decide +kernel
theorem dX6_isWordOnPage_48 : decode cX6_isWordOnPage 48 = .ok (.ifCond .ne 5, 3) := by decide +kernel
theorem dX6_isWordOnPage_51 : decode cX6_isWordOnPage 51 = .ok (.iconst 0, 1) := by decide +kernel
theorem dX6_isWordOnPage_52 : decode cX6_isWordOnPage 52 = .ok (.ireturn, 1) := by decide +kernel
theorem dX6_isWordOnPage_53 : decode cX6_isWordOnPage 53 = .ok (.iinc 1 1, 3) := by decide +kernel
theorem dX6_isWordOnPage_56 : decode cX6_isWordOnPage 56 = .ok (.goto (-40), 3) := by decide +kernel
theorem dX6_isWordOnPage_59 : decode cX6_isWordOnPage 59 = .ok (.iconst 1, 1) := by decide +kernel
theorem dX6_isWordOnPage_60 : decode cX6_isWordOnPage 60 = .ok (.ireturn, 1) := by decide +kernel
theorem dX6_drawWordToScratch_0 : decode cX6_drawWordToScratch 0 = .ok (.aload_n 0, 1) := by decide +kernel
theorem dX6_drawWordToScratch_1 : decode cX6_drawWordToScratch 1 = .ok (.getfield 55, 3) := by decide +kernel
theorem dX6_drawWordToScratch_4 : decode cX6_drawWordToScratch 4 = .ok (.invokevirtual 96, 3) := by decide +kernel
theorem dX6_drawWordToScratch_7 : decode cX6_drawWordToScratch 7 = .ok (.iconst 0, 1) := by decide +kernel
theorem dX6_drawWordToScratch_8 : decode cX6_drawWordToScratch 8 = .ok (.istore_n 1, 1) := by decide +kernel
theorem dX6_drawWordToScratch_9 : decode cX6_drawWordToScratch 9 = .ok (.iload_n 1, 1) := by decide +kernel
theorem dX6_drawWordToScratch_10 : decode cX6_drawWordToScratch 10 = .ok (.iconst 4, 1) := by decide +kernel
theorem dX6_drawWordToScratch_11 : decode cX6_drawWordToScratch 11 = .ok (.if_icmp .ge 54, 3) := by decide +kernel
theorem dX6_drawWordToScratch_14 : decode cX6_drawWordToScratch 14 = .ok (.aload_n 0, 1) := by decide +kernel
theorem dX6_drawWordToScratch_15 : decode cX6_drawWordToScratch 15 = .ok (.getfield 62, 3) := by decide +kernel
theorem dX6_drawWordToScratch_18 : decode cX6_drawWordToScratch 18 = .ok (.aload_n 0, 1) := by decide +kernel
theorem dX6_drawWordToScratch_19 : decode cX6_drawWordToScratch 19 = .ok (.getfield 19, 3) := by decide +kernel
theorem dX6_drawWordToScratch_22 : decode cX6_drawWordToScratch 22 = .ok (.invokevirtual 98, 3) := by decide +kernel
theorem dX6_drawWordToScratch_25 : decode cX6_drawWordToScratch 25 = .ok (.invokevirtual 204, 3) := by decide +kernel
theorem dX6_drawWordToScratch_28 : decode cX6_drawWordToScratch 28 = .ok (.istore_n 2, 1) := by decide +kernel
theorem dX6_drawWordToScratch_29 : decode cX6_drawWordToScratch 29 = .ok (.aload_n 0, 1) := by decide +kernel
theorem dX6_drawWordToScratch_30 : decode cX6_drawWordToScratch 30 = .ok (.getfield 62, 3) := by decide +kernel
theorem dX6_drawWordToScratch_33 : decode cX6_drawWordToScratch 33 = .ok (.iconst 2, 1) := by decide +kernel
theorem dX6_drawWordToScratch_34 : decode cX6_drawWordToScratch 34 = .ok (.invokevirtual 204, 3) := by decide +kernel
theorem dX6_drawWordToScratch_37 : decode cX6_drawWordToScratch 37 = .ok (.iconst 1, 1) := by decide +kernel
theorem dX6_drawWordToScratch_38 : decode cX6_drawWordToScratch 38 = .ok (.if_icmp .ne 7, 3) := by decide +kernel
theorem dX6_drawWordToScratch_41 : decode cX6_drawWordToScratch 41 = .ok (.iconst 1, 1) := by decide +kernel
theorem dX6_drawWordToScratch_42 : decode cX6_drawWordToScratch 42 = .ok (.goto 4, 3) := by decide +kernel
theorem dX6_drawWordToScratch_45 : decode cX6_drawWordToScratch 45 = .ok (.iconst 0, 1) := by decide +kernel
theorem dX6_drawWordToScratch_46 : decode cX6_drawWordToScratch 46 = .ok (.istore_n 3, 1) := by decide +kernel
theorem dX6_drawWordToScratch_47 : decode cX6_drawWordToScratch 47 = .ok (.aload_n 0, 1) := by decide +kernel
theorem dX6_drawWordToScratch_48 : decode cX6_drawWordToScratch 48 = .ok (.getfield 55, 3) := by decide +kernel
theorem dX6_drawWordToScratch_51 : decode cX6_drawWordToScratch 51 = .ok (.iload_n 2, 1) := by decide +kernel
theorem dX6_drawWordToScratch_52 : decode cX6_drawWordToScratch 52 = .ok (.iload_n 3, 1) := by decide +kernel
theorem dX6_drawWordToScratch_53 : decode cX6_drawWordToScratch 53 = .ok (.invokestatic 255, 3) := by decide +kernel
theorem dX6_drawWordToScratch_56 : decode cX6_drawWordToScratch 56 = .ok (.invokevirtual 259, 3) := by decide +kernel
theorem dX6_drawWordToScratch_59 : decode cX6_drawWordToScratch 59 = .ok (.iinc 1 1, 3) := by decide +kernel
theorem dX6_drawWordToScratch_62 : decode cX6_drawWordToScratch 62 = .ok (.goto (-53), 3) := by decide +kernel
theorem dX6_drawWordToScratch_65 : decode cX6_drawWordToScratch 65 = .ok (.return_, 1) := by decide +kernel
theorem dX6_isActing_0 : decode cX6_isActing 0 = .ok (.iload_n 1, 1) := by decide +kernel
theorem dX6_isActing_1 : decode cX6_isActing 1 = .ok (.invokestatic 144, 3) := by decide +kernel
theorem dX6_isActing_4 : decode cX6_isActing 4 = .ok (.ifCond .eq 17, 3) := by decide +kernel
theorem dX6_isActing_7 : decode cX6_isActing 7 = .ok (.aload_n 0, 1) := by decide +kernel
theorem dX6_isActing_8 : decode cX6_isActing 8 = .ok (.getfield 19, 3) := by decide +kernel
theorem dX6_isActing_11 : decode cX6_isActing 11 = .ok (.invokevirtual 98, 3) := by decide +kernel
theorem dX6_isActing_14 : decode cX6_isActing 14 = .ok (.ifCond .le 7, 3) := by decide +kernel
theorem dX6_isActing_17 : decode cX6_isActing 17 = .ok (.iconst 1, 1) := by decide +kernel
theorem dX6_isActing_18 : decode cX6_isActing 18 = .ok (.goto 4, 3) := by decide +kernel
theorem dX6_isActing_21 : decode cX6_isActing 21 = .ok (.iconst 0, 1) := by decide +kernel
theorem dX6_isActing_22 : decode cX6_isActing 22 = .ok (.ireturn, 1) := by decide +kernel
theorem dX6_isWord_0 : decode cX6_isWord 0 = .ok (.iload_n 0, 1) := by decide +kernel
theorem dX6_isWord_1 : decode cX6_isWord 1 = .ok (.ifCond .lt 12, 3) := by decide +kernel
theorem dX6_isWord_4 : decode cX6_isWord 4 = .ok (.iload_n 0, 1) := by decide +kernel
theorem dX6_isWord_5 : decode cX6_isWord 5 = .ok (.iconst 3, 1) := by decide +kernel
theorem dX6_isWord_6 : decode cX6_isWord 6 = .ok (.if_icmp .ge 7, 3) := by decide +kernel
theorem dX6_isWord_9 : decode cX6_isWord 9 = .ok (.iconst 1, 1) := by decide +kernel
theorem dX6_isWord_10 : decode cX6_isWord 10 = .ok (.goto 4, 3) := by decide +kernel
theorem dX6_isWord_13 : decode cX6_isWord 13 = .ok (.iconst 0, 1) := by decide +kernel
theorem dX6_isWord_14 : decode cX6_isWord 14 = .ok (.ireturn, 1) := by decide +kernel
theorem dX6_isKind_0 : decode cX6_isKind 0 = .ok (.iload_n 0, 1) := by decide +kernel
theorem dX6_isKind_1 : decode cX6_isKind 1 = .ok (.ifCond .lt 12, 3) := by decide +kernel
theorem dX6_isKind_4 : decode cX6_isKind 4 = .ok (.iload_n 0, 1) := by decide +kernel
theorem dX6_isKind_5 : decode cX6_isKind 5 = .ok (.iconst 5, 1) := by decide +kernel
theorem dX6_isKind_6 : decode cX6_isKind 6 = .ok (.if_icmp .ge 7, 3) := by decide +kernel
theorem dX6_isKind_9 : decode cX6_isKind 9 = .ok (.iconst 1, 1) := by decide +kernel
theorem dX6_isKind_10 : decode cX6_isKind 10 = .ok (.goto 4, 3) := by decide +kernel
theorem dX6_isKind_13 : decode cX6_isKind 13 = .ok (.iconst 0, 1) := by decide +kernel
theorem dX6_isKind_14 : decode cX6_isKind 14 = .ok (.ireturn, 1) := by decide +kernel
theorem dX6_isSign_0 : decode cX6_isSign 0 = .ok (.iload_n 0, 1) := by decide +kernel
theorem dX6_isSign_1 : decode cX6_isSign 1 = .ok (.ifCond .eq 8, 3) := by decide +kernel
theorem dX6_isSign_4 : decode cX6_isSign 4 = .ok (.iload_n 0, 1) := by decide +kernel
theorem dX6_isSign_5 : decode cX6_isSign 5 = .ok (.iconst 1, 1) := by decide +kernel
theorem dX6_isSign_6 : decode cX6_isSign 6 = .ok (.if_icmp .ne 7, 3) := by decide +kernel
theorem dX6_isSign_9 : decode cX6_isSign 9 = .ok (.iconst 1, 1) := by decide +kernel
theorem dX6_isSign_10 : decode cX6_isSign 10 = .ok (.goto 4, 3) := by decide +kernel
theorem dX6_isSign_13 : decode cX6_isSign 13 = .ok (.iconst 0, 1) := by decide +kernel
theorem dX6_isSign_14 : decode cX6_isSign 14 = .ok (.ireturn, 1) := by decide +kernel
theorem dX6_isRow_0 : decode cX6_isRow 0 = .ok (.iload_n 1, 1) := by decide +kernel
theorem dX6_isRow_1 : decode cX6_isRow 1 = .ok (.ifCond .lt 23, 3) := by decide +kernel
theorem dX6_isRow_4 : decode cX6_isRow 4 = .ok (.iload_n 1, 1) := by decide +kernel
theorem dX6_isRow_5 : decode cX6_isRow 5 = .ok (.iload_n 2, 1) := by decide +kernel
theorem dX6_isRow_6 : decode cX6_isRow 6 = .ok (.if_icmp .gt 18, 3) := by decide +kernel
theorem dX6_isRow_9 : decode cX6_isRow 9 = .ok (.iload_n 0, 1) := by decide +kernel
theorem dX6_isRow_10 : decode cX6_isRow 10 = .ok (.ifCond .lt 14, 3) := by decide +kernel
theorem dX6_isRow_13 : decode cX6_isRow 13 = .ok (.iload_n 0, 1) := by decide +kernel
theorem dX6_isRow_14 : decode cX6_isRow 14 = .ok (.iconst 1, 1) := by decide +kernel
theorem dX6_isRow_15 : decode cX6_isRow 15 = .ok (.iload_n 1, 1) := by decide +kernel
theorem dX6_isRow_16 : decode cX6_isRow 16 = .ok (.ishl, 1) := by decide +kernel
theorem dX6_isRow_17 : decode cX6_isRow 17 = .ok (.if_icmp .ge 7, 3) := by decide +kernel
theorem dX6_isRow_20 : decode cX6_isRow 20 = .ok (.iconst 1, 1) := by decide +kernel
theorem dX6_isRow_21 : decode cX6_isRow 21 = .ok (.goto 4, 3) := by decide +kernel
theorem dX6_isRow_24 : decode cX6_isRow 24 = .ok (.iconst 0, 1) := by decide +kernel
theorem dX6_isRow_25 : decode cX6_isRow 25 = .ok (.ireturn, 1) := by decide +kernel
theorem dX6_bestQuestion_0 : decode cX6_bestQuestion 0 = .ok (.iload_n 0, 1) := by decide +kernel
theorem dX6_bestQuestion_1 : decode cX6_bestQuestion 1 = .ok (.ifCond .ne 5, 3) := by decide +kernel
theorem dX6_bestQuestion_4 : decode cX6_bestQuestion 4 = .ok (.iconst (-1), 1) := by decide +kernel
theorem dX6_bestQuestion_5 : decode cX6_bestQuestion 5 = .ok (.ireturn, 1) := by decide +kernel
theorem dX6_bestQuestion_6 : decode cX6_bestQuestion 6 = .ok (.iconst (-1), 1) := by decide +kernel
theorem dX6_bestQuestion_7 : decode cX6_bestQuestion 7 = .ok (.istore_n 1, 1) := by decide +kernel
theorem dX6_bestQuestion_8 : decode cX6_bestQuestion 8 = .ok (.bipush 6, 2) := by decide +kernel
theorem dX6_bestQuestion_10 : decode cX6_bestQuestion 10 = .ok (.istore_n 2, 1) := by decide +kernel
theorem dX6_bestQuestion_11 : decode cX6_bestQuestion 11 = .ok (.iconst 0, 1) := by decide +kernel
theorem dX6_bestQuestion_12 : decode cX6_bestQuestion 12 = .ok (.istore_n 3, 1) := by decide +kernel
theorem dX6_bestQuestion_13 : decode cX6_bestQuestion 13 = .ok (.iload_n 3, 1) := by decide +kernel
theorem dX6_bestQuestion_14 : decode cX6_bestQuestion 14 = .ok (.iconst 4, 1) := by decide +kernel
theorem dX6_bestQuestion_15 : decode cX6_bestQuestion 15 = .ok (.if_icmp .ge 50, 3) := by decide +kernel
theorem dX6_bestQuestion_18 : decode cX6_bestQuestion 18 = .ok (.iload_n 0, 1) := by decide +kernel
theorem dX6_bestQuestion_19 : decode cX6_bestQuestion 19 = .ok (.getstatic 191, 3) := by decide +kernel
theorem dX6_bestQuestion_22 : decode cX6_bestQuestion 22 = .ok (.iload_n 3, 1) := by decide +kernel
theorem dX6_bestQuestion_23 : decode cX6_bestQuestion 23 = .ok (.iaload, 1) := by decide +kernel
theorem dX6_bestQuestion_24 : decode cX6_bestQuestion 24 = .ok (.iand, 1) := by decide +kernel
theorem dX6_bestQuestion_25 : decode cX6_bestQuestion 25 = .ok (.invokestatic 262, 3) := by decide +kernel
theorem dX6_bestQuestion_28 : decode cX6_bestQuestion 28 = .ok (.istore 4, 2) := by decide +kernel
theorem dX6_bestQuestion_30 : decode cX6_bestQuestion 30 = .ok (.iload_n 0, 1) := by decide +kernel
theorem dX6_bestQuestion_31 : decode cX6_bestQuestion 31 = .ok (.invokestatic 262, 3) := by decide +kernel
theorem dX6_bestQuestion_34 : decode cX6_bestQuestion 34 = .ok (.iload 4, 2) := by decide +kernel
theorem dX6_bestQuestion_36 : decode cX6_bestQuestion 36 = .ok (.isub, 1) := by decide +kernel
theorem dX6_bestQuestion_37 : decode cX6_bestQuestion 37 = .ok (.istore 5, 2) := by decide +kernel
theorem dX6_bestQuestion_39 : decode cX6_bestQuestion 39 = .ok (.iload 4, 2) := by decide +kernel
theorem dX6_bestQuestion_41 : decode cX6_bestQuestion 41 = .ok (.iload 5, 2) := by decide +kernel
theorem dX6_bestQuestion_43 : decode cX6_bestQuestion 43 = .ok (.invokestatic 267, 3) := by decide +kernel
theorem dX6_bestQuestion_46 : decode cX6_bestQuestion 46 = .ok (.istore 6, 2) := by decide +kernel
theorem dX6_bestQuestion_48 : decode cX6_bestQuestion 48 = .ok (.iload 6, 2) := by decide +kernel
theorem dX6_bestQuestion_50 : decode cX6_bestQuestion 50 = .ok (.iload_n 2, 1) := by decide +kernel
theorem dX6_bestQuestion_51 : decode cX6_bestQuestion 51 = .ok (.if_icmp .ge 8, 3) := by decide +kernel
theorem dX6_bestQuestion_54 : decode cX6_bestQuestion 54 = .ok (.iload_n 3, 1) := by decide +kernel
theorem dX6_bestQuestion_55 : decode cX6_bestQuestion 55 = .ok (.istore_n 1, 1) := by decide +kernel
theorem dX6_bestQuestion_56 : decode cX6_bestQuestion 56 = .ok (.iload 6, 2) := by decide +kernel
theorem dX6_bestQuestion_58 : decode cX6_bestQuestion 58 = .ok (.istore_n 2, 1) := by decide +kernel
theorem dX6_bestQuestion_59 : decode cX6_bestQuestion 59 = .ok (.iinc 3 1, 3) := by decide +kernel
theorem dX6_bestQuestion_62 : decode cX6_bestQuestion 62 = .ok (.goto (-49), 3) := by decide +kernel
theorem dX6_bestQuestion_65 : decode cX6_bestQuestion 65 = .ok (.iload_n 1, 1) := by decide +kernel
theorem dX6_bestQuestion_66 : decode cX6_bestQuestion 66 = .ok (.ireturn, 1) := by decide +kernel
theorem dX6_letterOf_0 : decode cX6_letterOf 0 = .ok (.iconst 2, 1) := by decide +kernel
theorem dX6_letterOf_1 : decode cX6_letterOf 1 = .ok (.iload_n 0, 1) := by decide +kernel
theorem dX6_letterOf_2 : decode cX6_letterOf 2 = .ok (.imul, 1) := by decide +kernel
theorem dX6_letterOf_3 : decode cX6_letterOf 3 = .ok (.iload_n 1, 1) := by decide +kernel
theorem dX6_letterOf_4 : decode cX6_letterOf 4 = .ok (.ifCond .eq 7, 3) := by decide +kernel
theorem dX6_letterOf_7 : decode cX6_letterOf 7 = .ok (.iconst 1, 1) := by decide +kernel
theorem dX6_letterOf_8 : decode cX6_letterOf 8 = .ok (.goto 4, 3) := by decide +kernel
theorem dX6_letterOf_11 : decode cX6_letterOf 11 = .ok (.iconst 0, 1) := by decide +kernel
theorem dX6_letterOf_12 : decode cX6_letterOf 12 = .ok (.iadd, 1) := by decide +kernel
theorem dX6_letterOf_13 : decode cX6_letterOf 13 = .ok (.ireturn, 1) := by decide +kernel
theorem dX6_stateOf_0 : decode cX6_stateOf 0 = .ok (.iload_n 0, 1) := by decide +kernel
theorem dX6_stateOf_1 : decode cX6_stateOf 1 = .ok (.iconst 1, 1) := by decide +kernel
theorem dX6_stateOf_2 : decode cX6_stateOf 2 = .ok (.ishr, 1) := by decide +kernel
theorem dX6_stateOf_3 : decode cX6_stateOf 3 = .ok (.ireturn, 1) := by decide +kernel
theorem dX6_isInverse_0 : decode cX6_isInverse 0 = .ok (.iload_n 0, 1) := by decide +kernel
theorem dX6_isInverse_1 : decode cX6_isInverse 1 = .ok (.iconst 1, 1) := by decide +kernel
theorem dX6_isInverse_2 : decode cX6_isInverse 2 = .ok (.iand, 1) := by decide +kernel
theorem dX6_isInverse_3 : decode cX6_isInverse 3 = .ok (.iconst 1, 1) := by decide +kernel
theorem dX6_isInverse_4 : decode cX6_isInverse 4 = .ok (.if_icmp .ne 7, 3) := by decide +kernel
theorem dX6_isInverse_7 : decode cX6_isInverse 7 = .ok (.iconst 1, 1) := by decide +kernel
theorem dX6_isInverse_8 : decode cX6_isInverse 8 = .ok (.goto 4, 3) := by decide +kernel
theorem dX6_isInverse_11 : decode cX6_isInverse 11 = .ok (.iconst 0, 1) := by decide +kernel
theorem dX6_isInverse_12 : decode cX6_isInverse 12 = .ok (.ireturn, 1) := by decide +kernel
theorem dX6_inverseOf_0 : decode cX6_inverseOf 0 = .ok (.iload_n 0, 1) := by decide +kernel
theorem dX6_inverseOf_1 : decode cX6_inverseOf 1 = .ok (.iconst 1, 1) := by decide +kernel
theorem dX6_inverseOf_2 : decode cX6_inverseOf 2 = .ok (.ixor, 1) := by decide +kernel
theorem dX6_inverseOf_3 : decode cX6_inverseOf 3 = .ok (.ireturn, 1) := by decide +kernel
theorem dX6_codeOfLetter_0 : decode cX6_codeOfLetter 0 = .ok (.iload_n 0, 1) := by decide +kernel
theorem dX6_codeOfLetter_1 : decode cX6_codeOfLetter 1 = .ok (.invokestatic 272, 3) := by decide +kernel
theorem dX6_codeOfLetter_4 : decode cX6_codeOfLetter 4 = .ok (.ifCond .eq 8, 3) := by decide +kernel
theorem dX6_codeOfLetter_7 : decode cX6_codeOfLetter 7 = .ok (.bipush 65, 2) := by decide +kernel
theorem dX6_codeOfLetter_9 : decode cX6_codeOfLetter 9 = .ok (.goto 5, 3) := by decide +kernel
theorem dX6_codeOfLetter_12 : decode cX6_codeOfLetter 12 = .ok (.bipush 97, 2) := by decide +kernel
theorem dX6_codeOfLetter_14 : decode cX6_codeOfLetter 14 = .ok (.iload_n 0, 1) := by decide +kernel
theorem dX6_codeOfLetter_15 : decode cX6_codeOfLetter 15 = .ok (.invokestatic 252, 3) := by decide +kernel
theorem dX6_codeOfLetter_18 : decode cX6_codeOfLetter 18 = .ok (.iadd, 1) := by decide +kernel
theorem dX6_codeOfLetter_19 : decode cX6_codeOfLetter 19 = .ok (.ireturn, 1) := by decide +kernel
theorem dX6_letterOfCode_0 : decode cX6_letterOfCode 0 = .ok (.iload_n 0, 1) := by decide +kernel
theorem dX6_letterOfCode_1 : decode cX6_letterOfCode 1 = .ok (.bipush 97, 2) := by decide +kernel
theorem dX6_letterOfCode_3 : decode cX6_letterOfCode 3 = .ok (.if_icmp .lt 18, 3) := by decide +kernel
theorem dX6_letterOfCode_6 : decode cX6_letterOfCode 6 = .ok (.iload_n 0, 1) := by decide +kernel
theorem dX6_letterOfCode_7 : decode cX6_letterOfCode 7 = .ok (.bipush 103, 2) := by decide +kernel
theorem dX6_letterOfCode_9 : decode cX6_letterOfCode 9 = .ok (.if_icmp .ge 12, 3) := by decide +kernel
theorem dX6_letterOfCode_12 : decode cX6_letterOfCode 12 = .ok (.iload_n 0, 1) := by decide +kernel
theorem dX6_letterOfCode_13 : decode cX6_letterOfCode 13 = .ok (.bipush 97, 2) := by decide +kernel
theorem dX6_letterOfCode_15 : decode cX6_letterOfCode 15 = .ok (.isub, 1) := by decide +kernel
theorem dX6_letterOfCode_16 : decode cX6_letterOfCode 16 = .ok (.iconst 0, 1) := by decide +kernel
theorem dX6_letterOfCode_17 : decode cX6_letterOfCode 17 = .ok (.invokestatic 255, 3) := by decide +kernel
theorem dX6_letterOfCode_20 : decode cX6_letterOfCode 20 = .ok (.ireturn, 1) := by decide +kernel
theorem dX6_letterOfCode_21 : decode cX6_letterOfCode 21 = .ok (.iload_n 0, 1) := by decide +kernel
theorem dX6_letterOfCode_22 : decode cX6_letterOfCode 22 = .ok (.bipush 65, 2) := by decide +kernel
theorem dX6_letterOfCode_24 : decode cX6_letterOfCode 24 = .ok (.if_icmp .lt 18, 3) := by decide +kernel
theorem dX6_letterOfCode_27 : decode cX6_letterOfCode 27 = .ok (.iload_n 0, 1) := by decide +kernel
theorem dX6_letterOfCode_28 : decode cX6_letterOfCode 28 = .ok (.bipush 71, 2) := by decide +kernel
theorem dX6_letterOfCode_30 : decode cX6_letterOfCode 30 = .ok (.if_icmp .ge 12, 3) := by decide +kernel
theorem dX6_letterOfCode_33 : decode cX6_letterOfCode 33 = .ok (.iload_n 0, 1) := by decide +kernel
theorem dX6_letterOfCode_34 : decode cX6_letterOfCode 34 = .ok (.bipush 65, 2) := by decide +kernel
theorem dX6_letterOfCode_36 : decode cX6_letterOfCode 36 = .ok (.isub, 1) := by decide +kernel
theorem dX6_letterOfCode_37 : decode cX6_letterOfCode 37 = .ok (.iconst 1, 1) := by decide +kernel
theorem dX6_letterOfCode_38 : decode cX6_letterOfCode 38 = .ok (.invokestatic 255, 3) := by decide +kernel
theorem dX6_letterOfCode_41 : decode cX6_letterOfCode 41 = .ok (.ireturn, 1) := by decide +kernel
theorem dX6_letterOfCode_42 : decode cX6_letterOfCode 42 = .ok (.iconst (-1), 1) := by decide +kernel
theorem dX6_letterOfCode_43 : decode cX6_letterOfCode 43 = .ok (.ireturn, 1) := by decide +kernel
end
section
theorem dX7_init_0 : decode cX7_init 0 = .ok (.aload_n 0, 1) := by decide +kernel
theorem dX7_init_1 : decode cX7_init 1 = .ok (.invokespecial 1, 3) := by decide +kernel
theorem dX7_init_4 : decode cX7_init 4 = .ok (.aload_n 0, 1) := by decide +kernel
theorem dX7_init_5 : decode cX7_init 5 = .ok (.bipush 6, 2) := by decide +kernel
theorem dX7_init_7 : decode cX7_init 7 = .ok (.newarray .int, 2) := by decide +kernel
theorem dX7_init_9 : decode cX7_init 9 = .ok (.putfield 7, 3) := by decide +kernel
theorem dX7_init_12 : decode cX7_init 12 = .ok (.aload_n 0, 1) := by decide +kernel
theorem dX7_init_13 : decode cX7_init 13 = .ok (.bipush 12, 2) := by decide +kernel
theorem dX7_init_15 : decode cX7_init 15 = .ok (.newarray .int, 2) := by decide +kernel
theorem dX7_init_17 : decode cX7_init 17 = .ok (.putfield 13, 3) := by decide +kernel
theorem dX7_init_20 : decode cX7_init 20 = .ok (.aload_n 0, 1) := by decide +kernel
theorem dX7_init_21 : decode cX7_init 21 = .ok (.iconst 3, 1) := by decide +kernel
theorem dX7_init_22 : decode cX7_init 22 = .ok (.newarray .int, 2) := by decide +kernel
theorem dX7_init_24 : decode cX7_init 24 = .ok (.putfield 16, 3) := by decide +kernel
theorem dX7_init_27 : decode cX7_init 27 = .ok (.aload_n 0, 1) := by decide +kernel
theorem dX7_init_28 : decode cX7_init 28 = .ok (.bipush 48, 2) := by decide +kernel
theorem dX7_init_30 : decode cX7_init 30 = .ok (.newarray .int, 2) := by decide +kernel
theorem dX7_init_32 : decode cX7_init 32 = .ok (.putfield 19, 3) := by decide +kernel
theorem dX7_init_35 : decode cX7_init 35 = .ok (.aload_n 0, 1) := by decide +kernel
theorem dX7_init_36 : decode cX7_init 36 = .ok (.bipush 6, 2) := by decide +kernel
theorem dX7_init_38 : decode cX7_init 38 = .ok (.newarray .int, 2) := by decide +kernel
theorem dX7_init_40 : decode cX7_init 40 = .ok (.putfield 22, 3) := by decide +kernel
theorem dX7_init_43 : decode cX7_init 43 = .ok (.aload_n 0, 1) := by decide +kernel
theorem dX7_init_44 : decode cX7_init 44 = .ok (.bipush 6, 2) := by decide +kernel
theorem dX7_init_46 : decode cX7_init 46 = .ok (.newarray .int, 2) := by decide +kernel
theorem dX7_init_48 : decode cX7_init 48 = .ok (.putfield 25, 3) := by decide +kernel
theorem dX7_init_51 : decode cX7_init 51 = .ok (.aload_n 0, 1) := by decide +kernel
theorem dX7_init_52 : decode cX7_init 52 = .ok (.bipush 6, 2) := by decide +kernel
theorem dX7_init_54 : decode cX7_init 54 = .ok (.newarray .boolean, 2) := by decide +kernel
theorem dX7_init_56 : decode cX7_init 56 = .ok (.putfield 28, 3) := by decide +kernel
theorem dX7_init_59 : decode cX7_init 59 = .ok (.aload_n 0, 1) := by decide +kernel
theorem dX7_init_60 : decode cX7_init 60 = .ok (.bipush 24, 2) := by decide +kernel
theorem dX7_init_62 : decode cX7_init 62 = .ok (.newarray .int, 2) := by decide +kernel
theorem dX7_init_64 : decode cX7_init 64 = .ok (.putfield 32, 3) := by decide +kernel
theorem dX7_init_67 : decode cX7_init 67 = .ok (.aload_n 0, 1) := by decide +kernel
theorem dX7_init_68 : decode cX7_init 68 = .ok (.sipush 128, 3) := by decide +kernel
theorem dX7_init_71 : decode cX7_init 71 = .ok (.newarray .int, 2) := by decide +kernel
theorem dX7_init_73 : decode cX7_init 73 = .ok (.putfield 35, 3) := by decide +kernel
theorem dX7_init_76 : decode cX7_init 76 = .ok (.aload_n 0, 1) := by decide +kernel
theorem dX7_init_77 : decode cX7_init 77 = .ok (.bipush 41, 2) := by decide +kernel
theorem dX7_init_79 : decode cX7_init 79 = .ok (.newarray .int, 2) := by decide +kernel
theorem dX7_init_81 : decode cX7_init 81 = .ok (.putfield 38, 3) := by decide +kernel
theorem dX7_init_84 : decode cX7_init 84 = .ok (.aload_n 0, 1) := by decide +kernel
theorem dX7_init_85 : decode cX7_init 85 = .ok (.sipush 5248, 3) := by decide +kernel
theorem dX7_init_88 : decode cX7_init 88 = .ok (.newarray .byte, 2) := by decide +kernel
theorem dX7_init_90 : decode cX7_init 90 = .ok (.putfield 41, 3) := by decide +kernel
theorem dX7_init_93 : decode cX7_init 93 = .ok (.aload_n 0, 1) := by decide +kernel
theorem dX7_init_94 : decode cX7_init 94 = .ok (.iconst 4, 1) := by decide +kernel
theorem dX7_init_95 : decode cX7_init 95 = .ok (.newarray .int, 2) := by decide +kernel
theorem dX7_init_97 : decode cX7_init 97 = .ok (.putfield 45, 3) := by decide +kernel
theorem dX7_init_100 : decode cX7_init 100 = .ok (.aload_n 0, 1) := by decide +kernel
theorem dX7_init_101 : decode cX7_init 101 = .ok (.bipush 6, 2) := by decide +kernel
theorem dX7_init_103 : decode cX7_init 103 = .ok (.newarray .int, 2) := by decide +kernel
theorem dX7_init_105 : decode cX7_init 105 = .ok (.putfield 48, 3) := by decide +kernel
theorem dX7_init_108 : decode cX7_init 108 = .ok (.aload_n 0, 1) := by decide +kernel
theorem dX7_init_109 : decode cX7_init 109 = .ok (.bipush 12, 2) := by decide +kernel
theorem dX7_init_111 : decode cX7_init 111 = .ok (.newarray .int, 2) := by decide +kernel
theorem dX7_init_113 : decode cX7_init 113 = .ok (.putfield 51, 3) := by decide +kernel
theorem dX7_init_116 : decode cX7_init 116 = .ok (.aload_n 0, 1) := by decide +kernel
theorem dX7_init_117 : decode cX7_init 117 = .ok (.iconst 3, 1) := by decide +kernel
theorem dX7_init_118 : decode cX7_init 118 = .ok (.newarray .int, 2) := by decide +kernel
theorem dX7_init_120 : decode cX7_init 120 = .ok (.putfield 54, 3) := by decide +kernel
theorem dX7_init_123 : decode cX7_init 123 = .ok (.aload_n 0, 1) := by decide +kernel
theorem dX7_init_124 : decode cX7_init 124 = .ok (.bipush 48, 2) := by decide +kernel
theorem dX7_init_126 : decode cX7_init 126 = .ok (.newarray .int, 2) := by decide +kernel
theorem dX7_init_128 : decode cX7_init 128 = .ok (.putfield 57, 3) := by decide +kernel
theorem dX7_init_131 : decode cX7_init 131 = .ok (.aload_n 0, 1) := by decide +kernel
theorem dX7_init_132 : decode cX7_init 132 = .ok (.bipush 6, 2) := by decide +kernel
theorem dX7_init_134 : decode cX7_init 134 = .ok (.newarray .int, 2) := by decide +kernel
theorem dX7_init_136 : decode cX7_init 136 = .ok (.putfield 60, 3) := by decide +kernel
theorem dX7_init_139 : decode cX7_init 139 = .ok (.aload_n 0, 1) := by decide +kernel
theorem dX7_init_140 : decode cX7_init 140 = .ok (.bipush 6, 2) := by decide +kernel
theorem dX7_init_142 : decode cX7_init 142 = .ok (.newarray .int, 2) := by decide +kernel
theorem dX7_init_144 : decode cX7_init 144 = .ok (.putfield 63, 3) := by decide +kernel
theorem dX7_init_147 : decode cX7_init 147 = .ok (.aload_n 0, 1) := by decide +kernel
theorem dX7_init_148 : decode cX7_init 148 = .ok (.bipush 6, 2) := by decide +kernel
theorem dX7_init_150 : decode cX7_init 150 = .ok (.newarray .boolean, 2) := by decide +kernel
theorem dX7_init_152 : decode cX7_init 152 = .ok (.putfield 66, 3) := by decide +kernel
theorem dX7_init_155 : decode cX7_init 155 = .ok (.return_, 1) := by decide +kernel
theorem dX7_within_0 : decode cX7_within 0 = .ok (.iload_n 0, 1) := by decide +kernel
theorem dX7_within_1 : decode cX7_within 1 = .ok (.iload_n 1, 1) := by decide +kernel
theorem dX7_within_2 : decode cX7_within 2 = .ok (.if_icmp .lt 12, 3) := by decide +kernel
theorem dX7_within_5 : decode cX7_within 5 = .ok (.iload_n 0, 1) := by decide +kernel
theorem dX7_within_6 : decode cX7_within 6 = .ok (.iload_n 2, 1) := by decide +kernel
theorem dX7_within_7 : decode cX7_within 7 = .ok (.if_icmp .gt 7, 3) := by decide +kernel
theorem dX7_within_10 : decode cX7_within 10 = .ok (.iconst 1, 1) := by decide +kernel
theorem dX7_within_11 : decode cX7_within 11 = .ok (.goto 4, 3) := by decide +kernel
theorem dX7_within_14 : decode cX7_within 14 = .ok (.iconst 0, 1) := by decide +kernel
theorem dX7_within_15 : decode cX7_within 15 = .ok (.ireturn, 1) := by decide +kernel
theorem dX7_isBit_0 : decode cX7_isBit 0 = .ok (.iload_n 0, 1) := by decide +kernel
theorem dX7_isBit_1 : decode cX7_isBit 1 = .ok (.iload_n 1, 1) := by decide +kernel
theorem dX7_isBit_2 : decode cX7_isBit 2 = .ok (.ishr, 1) := by decide +kernel
theorem dX7_isBit_3 : decode cX7_isBit 3 = .ok (.iconst 1, 1) := by decide +kernel
theorem dX7_isBit_4 : decode cX7_isBit 4 = .ok (.iand, 1) := by decide +kernel
theorem dX7_isBit_5 : decode cX7_isBit 5 = .ok (.iconst 1, 1) := by decide +kernel
theorem dX7_isBit_6 : decode cX7_isBit 6 = .ok (.if_icmp .ne 7, 3) := by decide +kernel
theorem dX7_isBit_9 : decode cX7_isBit 9 = .ok (.iconst 1, 1) := by decide +kernel
theorem dX7_isBit_10 : decode cX7_isBit 10 = .ok (.goto 4, 3) := by decide +kernel
theorem dX7_isBit_13 : decode cX7_isBit 13 = .ok (.iconst 0, 1) := by decide +kernel
theorem dX7_isBit_14 : decode cX7_isBit 14 = .ok (.ireturn, 1) := by decide +kernel
theorem dX7_size_0 : decode cX7_size 0 = .ok (.iconst 0, 1) := by decide +kernel
theorem dX7_size_1 : decode cX7_size 1 = .ok (.istore_n 1, 1) := by decide +kernel
theorem dX7_size_2 : decode cX7_size 2 = .ok (.iconst 0, 1) := by decide +kernel
theorem dX7_size_3 : decode cX7_size 3 = .ok (.istore_n 2, 1) := by decide +kernel
theorem dX7_size_4 : decode cX7_size 4 = .ok (.iload_n 2, 1) := by decide +kernel
theorem dX7_size_5 : decode cX7_size 5 = .ok (.bipush 16, 2) := by decide +kernel
theorem dX7_size_7 : decode cX7_size 7 = .ok (.if_icmp .ge 17, 3) := by decide +kernel
theorem dX7_size_10 : decode cX7_size 10 = .ok (.iload_n 1, 1) := by decide +kernel
theorem dX7_size_11 : decode cX7_size 11 = .ok (.iload_n 0, 1) := by decide +kernel
theorem dX7_size_12 : decode cX7_size 12 = .ok (.iload_n 2, 1) := by decide +kernel
theorem dX7_size_13 : decode cX7_size 13 = .ok (.ishr, 1) := by decide +kernel
theorem dX7_size_14 : decode cX7_size 14 = .ok (.iconst 1, 1) := by decide +kernel
theorem dX7_size_15 : decode cX7_size 15 = .ok (.iand, 1) := by decide +kernel
theorem dX7_size_16 : decode cX7_size 16 = .ok (.iadd, 1) := by decide +kernel
theorem dX7_size_17 : decode cX7_size 17 = .ok (.istore_n 1, 1) := by decide +kernel
theorem dX7_size_18 : decode cX7_size 18 = .ok (.iinc 2 1, 3) := by decide +kernel
theorem dX7_size_21 : decode cX7_size 21 = .ok (.goto (-17), 3) := by decide +kernel
theorem dX7_size_24 : decode cX7_size 24 = .ok (.iload_n 1, 1) := by decide +kernel
theorem dX7_size_25 : decode cX7_size 25 = .ok (.ireturn, 1) := by decide +kernel
theorem dX7_letter_0 : decode cX7_letter 0 = .ok (.iload_n 1, 1) := by decide +kernel
theorem dX7_letter_1 : decode cX7_letter 1 = .ok (.iconst 1, 1) := by decide +kernel
theorem dX7_letter_2 : decode cX7_letter 2 = .ok (.bipush 126, 2) := by decide +kernel
theorem dX7_letter_4 : decode cX7_letter 4 = .ok (.invokestatic 69, 3) := by decide +kernel
theorem dX7_letter_7 : decode cX7_letter 7 = .ok (.ifCond .ne 6, 3) := by decide +kernel
theorem dX7_letter_10 : decode cX7_letter 10 = .ok (.bipush (-102), 2) := by decide +kernel
theorem dX7_letter_12 : decode cX7_letter 12 = .ok (.ireturn, 1) := by decide +kernel
theorem dX7_letter_13 : decode cX7_letter 13 = .ok (.aload_n 0, 1) := by decide +kernel
theorem dX7_letter_14 : decode cX7_letter 14 = .ok (.getfield 73, 3) := by decide +kernel
theorem dX7_letter_17 : decode cX7_letter 17 = .ok (.bipush 24, 2) := by decide +kernel
theorem dX7_letter_19 : decode cX7_letter 19 = .ok (.if_icmp .ne 6, 3) := by decide +kernel
theorem dX7_letter_22 : decode cX7_letter 22 = .ok (.bipush (-104), 2) := by decide +kernel
theorem dX7_letter_24 : decode cX7_letter 24 = .ok (.ireturn, 1) := by decide +kernel
theorem dX7_letter_25 : decode cX7_letter 25 = .ok (.aload_n 0, 1) := by decide +kernel
theorem dX7_letter_26 : decode cX7_letter 26 = .ok (.getfield 32, 3) := by decide +kernel
theorem dX7_letter_29 : decode cX7_letter 29 = .ok (.aload_n 0, 1) := by decide +kernel
theorem dX7_letter_30 : decode cX7_letter 30 = .ok (.getfield 73, 3) := by decide +kernel
theorem dX7_letter_33 : decode cX7_letter 33 = .ok (.iload_n 1, 1) := by decide +kernel
theorem dX7_letter_34 : decode cX7_letter 34 = .ok (.iastore, 1) := by decide +kernel
theorem dX7_letter_35 : decode cX7_letter 35 = .ok (.aload_n 0, 1) := by decide +kernel
theorem dX7_letter_36 : decode cX7_letter 36 = .ok (.dup, 1) := by decide +kernel
theorem dX7_letter_37 : decode cX7_letter 37 = .ok (.getfield 73, 3) := by decide +kernel
theorem dX7_letter_40 : decode cX7_letter 40 = .ok (.iconst 1, 1) := by decide +kernel
theorem dX7_letter_41 : decode cX7_letter 41 = .ok (.iadd, 1) := by decide +kernel
theorem dX7_letter_42 : decode cX7_letter 42 = .ok (.putfield 73, 3) := by decide +kernel
theorem dX7_letter_45 : decode cX7_letter 45 = .ok (.aload_n 0, 1) := by decide +kernel
theorem dX7_letter_46 : decode cX7_letter 46 = .ok (.getfield 73, 3) := by decide +kernel
theorem dX7_letter_49 : decode cX7_letter 49 = .ok (.ireturn, 1) := by decide +kernel
theorem dX7_blank_0 : decode cX7_blank 0 = .ok (.aload_n 0, 1) := by decide +kernel
theorem dX7_blank_1 : decode cX7_blank 1 = .ok (.getfield 73, 3) := by decide +kernel
theorem dX7_blank_4 : decode cX7_blank 4 = .ok (.istore_n 1, 1) := by decide +kernel
theorem dX7_blank_5 : decode cX7_blank 5 = .ok (.aload_n 0, 1) := by decide +kernel
theorem dX7_blank_6 : decode cX7_blank 6 = .ok (.iconst 0, 1) := by decide +kernel
theorem dX7_blank_7 : decode cX7_blank 7 = .ok (.putfield 73, 3) := by decide +kernel
theorem dX7_blank_10 : decode cX7_blank 10 = .ok (.iload_n 1, 1) := by decide +kernel
theorem dX7_blank_11 : decode cX7_blank 11 = .ok (.ireturn, 1) := by decide +kernel
theorem dX7_kindBy_0 : decode cX7_kindBy 0 = .ok (.iload_n 0, 1) := by decide +kernel
theorem dX7_kindBy_1 : decode cX7_kindBy 1 = .ok (.lookupswitch 61 #[(102, 53), (111, 59), (114, 57), (115, 51), (119, 55)], 51) := by decide +kernel
theorem dX7_kindBy_52 : decode cX7_kindBy 52 = .ok (.iconst 0, 1) := by decide +kernel
theorem dX7_kindBy_53 : decode cX7_kindBy 53 = .ok (.ireturn, 1) := by decide +kernel
theorem dX7_kindBy_54 : decode cX7_kindBy 54 = .ok (.iconst 1, 1) := by decide +kernel
theorem dX7_kindBy_55 : decode cX7_kindBy 55 = .ok (.ireturn, 1) := by decide +kernel
theorem dX7_kindBy_56 : decode cX7_kindBy 56 = .ok (.iconst 2, 1) := by decide +kernel
theorem dX7_kindBy_57 : decode cX7_kindBy 57 = .ok (.ireturn, 1) := by decide +kernel
theorem dX7_kindBy_58 : decode cX7_kindBy 58 = .ok (.iconst 3, 1) := by decide +kernel
theorem dX7_kindBy_59 : decode cX7_kindBy 59 = .ok (.ireturn, 1) := by decide +kernel
theorem dX7_kindBy_60 : decode cX7_kindBy 60 = .ok (.iconst 4, 1) := by decide +kernel
theorem dX7_kindBy_61 : decode cX7_kindBy 61 = .ok (.ireturn, 1) := by decide +kernel
theorem dX7_kindBy_62 : decode cX7_kindBy 62 = .ok (.iconst (-1), 1) := by decide +kernel
theorem dX7_kindBy_63 : decode cX7_kindBy 63 = .ok (.ireturn, 1) := by decide +kernel
theorem dX7_fitsAt_0 : decode cX7_fitsAt 0 = .ok (.iload_n 0, 1) := by decide +kernel
theorem dX7_fitsAt_1 : decode cX7_fitsAt 1 = .ok (.iconst 4, 1) := by decide +kernel
theorem dX7_fitsAt_2 : decode cX7_fitsAt 2 = .ok (.irem, 1) := by decide +kernel
theorem dX7_fitsAt_3 : decode cX7_fitsAt 3 = .ok (.lookupswitch 63 #[(0, 25), (3, 45)], 25) := by decide +kernel
theorem dX7_fitsAt_28 : decode cX7_fitsAt 28 = .ok (.iload_n 0, 1) := by decide +kernel
theorem dX7_fitsAt_29 : decode cX7_fitsAt 29 = .ok (.bipush 24, 2) := by decide +kernel
theorem dX7_fitsAt_31 : decode cX7_fitsAt 31 = .ok (.if_icmp .ge 15, 3) := by decide +kernel
theorem dX7_fitsAt_34 : decode cX7_fitsAt 34 = .ok (.iload_n 1, 1) := by decide +kernel
theorem dX7_fitsAt_35 : decode cX7_fitsAt 35 = .ok (.invokestatic 77, 3) := by decide +kernel
theorem dX7_fitsAt_38 : decode cX7_fitsAt 38 = .ok (.iconst (-1), 1) := by decide +kernel
theorem dX7_fitsAt_39 : decode cX7_fitsAt 39 = .ok (.if_icmp .eq 7, 3) := by decide +kernel
theorem dX7_fitsAt_42 : decode cX7_fitsAt 42 = .ok (.iconst 1, 1) := by decide +kernel
theorem dX7_fitsAt_43 : decode cX7_fitsAt 43 = .ok (.goto 4, 3) := by decide +kernel
theorem dX7_fitsAt_46 : decode cX7_fitsAt 46 = .ok (.iconst 0, 1) := by decide +kernel
theorem dX7_fitsAt_47 : decode cX7_fitsAt 47 = .ok (.ireturn, 1) := by decide +kernel
theorem dX7_fitsAt_48 : decode cX7_fitsAt 48 = .ok (.iload_n 0, 1) := by decide +kernel
theorem dX7_fitsAt_49 : decode cX7_fitsAt 49 = .ok (.bipush 23, 2) := by decide +kernel
theorem dX7_fitsAt_51 : decode cX7_fitsAt 51 = .ok (.if_icmp .ge 13, 3) := by decide +kernel
theorem dX7_fitsAt_54 : decode cX7_fitsAt 54 = .ok (.iload_n 1, 1) := by decide +kernel
theorem dX7_fitsAt_55 : decode cX7_fitsAt 55 = .ok (.bipush 44, 2) := by decide +kernel
theorem dX7_fitsAt_57 : decode cX7_fitsAt 57 = .ok (.if_icmp .ne 7, 3) := by decide +kernel
theorem dX7_fitsAt_60 : decode cX7_fitsAt 60 = .ok (.iconst 1, 1) := by decide +kernel
theorem dX7_fitsAt_61 : decode cX7_fitsAt 61 = .ok (.goto 4, 3) := by decide +kernel
theorem dX7_fitsAt_64 : decode cX7_fitsAt 64 = .ok (.iconst 0, 1) := by decide +kernel
theorem dX7_fitsAt_65 : decode cX7_fitsAt 65 = .ok (.ireturn, 1) := by decide +kernel
theorem dX7_fitsAt_66 : decode cX7_fitsAt 66 = .ok (.iload_n 1, 1) := by decide +kernel
theorem dX7_fitsAt_67 : decode cX7_fitsAt 67 = .ok (.bipush 45, 2) := by decide +kernel
theorem dX7_fitsAt_69 : decode cX7_fitsAt 69 = .ok (.if_icmp .eq 14, 3) := by decide +kernel
theorem dX7_fitsAt_72 : decode cX7_fitsAt 72 = .ok (.iload_n 1, 1) := by decide +kernel
theorem dX7_fitsAt_73 : decode cX7_fitsAt 73 = .ok (.bipush 48, 2) := by decide +kernel
theorem dX7_fitsAt_75 : decode cX7_fitsAt 75 = .ok (.bipush 53, 2) := by decide +kernel
theorem dX7_fitsAt_77 : decode cX7_fitsAt 77 = .ok (.invokestatic 69, 3) := by decide +kernel
theorem dX7_fitsAt_80 : decode cX7_fitsAt 80 = .ok (.ifCond .eq 7, 3) := by decide +kernel
theorem dX7_fitsAt_83 : decode cX7_fitsAt 83 = .ok (.iconst 1, 1) := by decide +kernel
theorem dX7_fitsAt_84 : decode cX7_fitsAt 84 = .ok (.goto 4, 3) := by decide +kernel
theorem dX7_fitsAt_87 : decode cX7_fitsAt 87 = .ok (.iconst 0, 1) := by decide +kernel
theorem dX7_fitsAt_88 : decode cX7_fitsAt 88 = .ok (.ireturn, 1) := by decide +kernel
theorem dX7_fault_0 : decode cX7_fault 0 = .ok (.iconst 0, 1) := by decide +kernel
theorem dX7_fault_1 : decode cX7_fault 1 = .ok (.istore_n 1, 1) := by decide +kernel
theorem dX7_fault_2 : decode cX7_fault 2 = .ok (.iload_n 1, 1) := by decide +kernel
theorem dX7_fault_3 : decode cX7_fault 3 = .ok (.aload_n 0, 1) := by decide +kernel
theorem dX7_fault_4 : decode cX7_fault 4 = .ok (.getfield 73, 3) := by decide +kernel
theorem dX7_fault_7 : decode cX7_fault 7 = .ok (.if_icmp .ge 22, 3) := by decide +kernel
theorem dX7_fault_10 : decode cX7_fault 10 = .ok (.iload_n 1, 1) := by decide +kernel
theorem dX7_fault_11 : decode cX7_fault 11 = .ok (.aload_n 0, 1) := by decide +kernel
theorem dX7_fault_12 : decode cX7_fault 12 = .ok (.getfield 32, 3) := by decide +kernel
theorem dX7_fault_15 : decode cX7_fault 15 = .ok (.iload_n 1, 1) := by decide +kernel
theorem dX7_fault_16 : decode cX7_fault 16 = .ok (.iaload, 1) := by decide +kernel
theorem dX7_fault_17 : decode cX7_fault 17 = .ok (.invokestatic 81, 3) := by decide +kernel
theorem dX7_fault_20 : decode cX7_fault 20 = .ok (.ifCond .eq 9, 3) := by decide +kernel
theorem dX7_fault_23 : decode cX7_fault 23 = .ok (.iinc 1 1, 3) := by decide +kernel
theorem dX7_fault_26 : decode cX7_fault 26 = .ok (.goto (-24), 3) := by decide +kernel
theorem dX7_fault_29 : decode cX7_fault 29 = .ok (.iload_n 1, 1) := by decide +kernel
theorem dX7_fault_30 : decode cX7_fault 30 = .ok (.ireturn, 1) := by decide +kernel
theorem dX7_aimOf_0 : decode cX7_aimOf 0 = .ok (.iload_n 0, 1) := by decide +kernel
theorem dX7_aimOf_1 : decode cX7_aimOf 1 = .ok (.bipush 45, 2) := by decide +kernel
theorem dX7_aimOf_3 : decode cX7_aimOf 3 = .ok (.if_icmp .ne 7, 3) := by decide +kernel
theorem dX7_aimOf_6 : decode cX7_aimOf 6 = .ok (.iconst (-1), 1) := by decide +kernel
theorem dX7_aimOf_7 : decode cX7_aimOf 7 = .ok (.goto 7, 3) := by decide +kernel
theorem dX7_aimOf_10 : decode cX7_aimOf 10 = .ok (.iload_n 0, 1) := by decide +kernel
theorem dX7_aimOf_11 : decode cX7_aimOf 11 = .ok (.bipush 48, 2) := by decide +kernel
theorem dX7_aimOf_13 : decode cX7_aimOf 13 = .ok (.isub, 1) := by decide +kernel
theorem dX7_aimOf_14 : decode cX7_aimOf 14 = .ok (.ireturn, 1) := by decide +kernel
theorem dX7_isAimed_0 : decode cX7_isAimed 0 = .ok (.iconst 1, 1) := by decide +kernel
theorem dX7_isAimed_1 : decode cX7_isAimed 1 = .ok (.istore_n 2, 1) := by decide +kernel
theorem dX7_isAimed_2 : decode cX7_isAimed 2 = .ok (.iconst 0, 1) := by decide +kernel
theorem dX7_isAimed_3 : decode cX7_isAimed 3 = .ok (.istore_n 3, 1) := by decide +kernel
theorem dX7_isAimed_4 : decode cX7_isAimed 4 = .ok (.iload_n 3, 1) := by decide +kernel
theorem dX7_isAimed_5 : decode cX7_isAimed 5 = .ok (.iload_n 1, 1) := by decide +kernel
theorem dX7_isAimed_6 : decode cX7_isAimed 6 = .ok (.if_icmp .ge 53, 3) := by decide +kernel
theorem dX7_isAimed_9 : decode cX7_isAimed 9 = .ok (.iload_n 2, 1) := by decide +kernel
theorem dX7_isAimed_10 : decode cX7_isAimed 10 = .ok (.ifCond .eq 41, 3) := by decide +kernel
theorem dX7_isAimed_13 : decode cX7_isAimed 13 = .ok (.aload_n 0, 1) := by decide +kernel
theorem dX7_isAimed_14 : decode cX7_isAimed 14 = .ok (.getfield 32, 3) := by decide +kernel
theorem dX7_isAimed_17 : decode cX7_isAimed 17 = .ok (.iconst 4, 1) := by decide +kernel
theorem dX7_isAimed_18 : decode cX7_isAimed 18 = .ok (.iload_n 3, 1) := by decide +kernel
theorem dX7_isAimed_19 : decode cX7_isAimed 19 = .ok (.imul, 1) := by decide +kernel
theorem dX7_isAimed_20 : decode cX7_isAimed 20 = .ok (.iconst 1, 1) := by decide +kernel
theorem dX7_isAimed_21 : decode cX7_isAimed 21 = .ok (.iadd, 1) := by decide +kernel
theorem dX7_isAimed_22 : decode cX7_isAimed 22 = .ok (.iaload, 1) := by decide +kernel
theorem dX7_isAimed_23 : decode cX7_isAimed 23 = .ok (.invokestatic 85, 3) := by decide +kernel
theorem dX7_isAimed_26 : decode cX7_isAimed 26 = .ok (.iload_n 1, 1) := by decide +kernel
theorem dX7_isAimed_27 : decode cX7_isAimed 27 = .ok (.if_icmp .ge 24, 3) := by decide +kernel
theorem dX7_isAimed_30 : decode cX7_isAimed 30 = .ok (.aload_n 0, 1) := by decide +kernel
theorem dX7_isAimed_31 : decode cX7_isAimed 31 = .ok (.getfield 32, 3) := by decide +kernel
theorem dX7_isAimed_34 : decode cX7_isAimed 34 = .ok (.iconst 4, 1) := by decide +kernel
theorem dX7_isAimed_35 : decode cX7_isAimed 35 = .ok (.iload_n 3, 1) := by decide +kernel
theorem dX7_isAimed_36 : decode cX7_isAimed 36 = .ok (.imul, 1) := by decide +kernel
theorem dX7_isAimed_37 : decode cX7_isAimed 37 = .ok (.iconst 2, 1) := by decide +kernel
theorem dX7_isAimed_38 : decode cX7_isAimed 38 = .ok (.iadd, 1) := by decide +kernel
theorem dX7_isAimed_39 : decode cX7_isAimed 39 = .ok (.iaload, 1) := by decide +kernel
theorem dX7_isAimed_40 : decode cX7_isAimed 40 = .ok (.invokestatic 85, 3) := by decide +kernel
theorem dX7_isAimed_43 : decode cX7_isAimed 43 = .ok (.iload_n 1, 1) := by decide +kernel
theorem dX7_isAimed_44 : decode cX7_isAimed 44 = .ok (.if_icmp .ge 7, 3) := by decide +kernel
theorem dX7_isAimed_47 : decode cX7_isAimed 47 = .ok (.iconst 1, 1) := by decide +kernel
theorem dX7_isAimed_48 : decode cX7_isAimed 48 = .ok (.goto 4, 3) := by decide +kernel
theorem dX7_isAimed_51 : decode cX7_isAimed 51 = .ok (.iconst 0, 1) := by decide +kernel
theorem dX7_isAimed_52 : decode cX7_isAimed 52 = .ok (.istore_n 2, 1) := by decide +kernel
theorem dX7_isAimed_53 : decode cX7_isAimed 53 = .ok (.iinc 3 1, 3) := by decide +kernel
theorem dX7_isAimed_56 : decode cX7_isAimed 56 = .ok (.goto (-52), 3) := by decide +kernel
theorem dX7_isAimed_59 : decode cX7_isAimed 59 = .ok (.iload_n 2, 1) := by decide +kernel
theorem dX7_isAimed_60 : decode cX7_isAimed 60 = .ok (.ireturn, 1) := by decide +kernel
theorem dX7_machine_0 : decode cX7_machine 0 = .ok (.aload_n 0, 1) := by decide +kernel
theorem dX7_machine_1 : decode cX7_machine 1 = .ok (.getfield 73, 3) := by decide +kernel
theorem dX7_machine_4 : decode cX7_machine 4 = .ok (.iconst 1, 1) := by decide +kernel
theorem dX7_machine_5 : decode cX7_machine 5 = .ok (.iadd, 1) := by decide +kernel
theorem dX7_machine_6 : decode cX7_machine 6 = .ok (.iconst 4, 1) := by decide +kernel
theorem dX7_machine_7 : decode cX7_machine 7 = .ok (.idiv, 1) := by decide +kernel
theorem dX7_machine_8 : decode cX7_machine 8 = .ok (.istore_n 1, 1) := by decide +kernel
theorem dX7_machine_9 : decode cX7_machine 9 = .ok (.aload_n 0, 1) := by decide +kernel
theorem dX7_machine_10 : decode cX7_machine 10 = .ok (.invokevirtual 88, 3) := by decide +kernel
theorem dX7_machine_13 : decode cX7_machine 13 = .ok (.aload_n 0, 1) := by decide +kernel
theorem dX7_machine_14 : decode cX7_machine 14 = .ok (.getfield 73, 3) := by decide +kernel
theorem dX7_machine_17 : decode cX7_machine 17 = .ok (.if_icmp .lt 21, 3) := by decide +kernel
theorem dX7_machine_20 : decode cX7_machine 20 = .ok (.aload_n 0, 1) := by decide +kernel
theorem dX7_machine_21 : decode cX7_machine 21 = .ok (.getfield 73, 3) := by decide +kernel
theorem dX7_machine_24 : decode cX7_machine 24 = .ok (.iconst 4, 1) := by decide +kernel
theorem dX7_machine_25 : decode cX7_machine 25 = .ok (.irem, 1) := by decide +kernel
theorem dX7_machine_26 : decode cX7_machine 26 = .ok (.iconst 3, 1) := by decide +kernel
theorem dX7_machine_27 : decode cX7_machine 27 = .ok (.if_icmp .ne 11, 3) := by decide +kernel
theorem dX7_machine_30 : decode cX7_machine 30 = .ok (.aload_n 0, 1) := by decide +kernel
theorem dX7_machine_31 : decode cX7_machine 31 = .ok (.iload_n 1, 1) := by decide +kernel
theorem dX7_machine_32 : decode cX7_machine 32 = .ok (.invokevirtual 92, 3) := by decide +kernel
theorem dX7_machine_35 : decode cX7_machine 35 = .ok (.ifCond .ne 6, 3) := by decide +kernel
theorem dX7_machine_38 : decode cX7_machine 38 = .ok (.bipush (-103), 2) := by decide +kernel
theorem dX7_machine_40 : decode cX7_machine 40 = .ok (.ireturn, 1) := by decide +kernel
theorem dX7_machine_41 : decode cX7_machine 41 = .ok (.iconst 0, 1) := by decide +kernel
theorem dX7_machine_42 : decode cX7_machine 42 = .ok (.istore_n 2, 1) := by decide +kernel
theorem dX7_machine_43 : decode cX7_machine 43 = .ok (.iload_n 2, 1) := by decide +kernel
theorem dX7_machine_44 : decode cX7_machine 44 = .ok (.iload_n 1, 1) := by decide +kernel
theorem dX7_machine_45 : decode cX7_machine 45 = .ok (.if_icmp .ge 70, 3) := by decide +kernel
theorem dX7_machine_48 : decode cX7_machine 48 = .ok (.aload_n 0, 1) := by decide +kernel
theorem dX7_machine_49 : decode cX7_machine 49 = .ok (.getfield 7, 3) := by decide +kernel
theorem dX7_machine_52 : decode cX7_machine 52 = .ok (.iload_n 2, 1) := by decide +kernel
theorem dX7_machine_53 : decode cX7_machine 53 = .ok (.aload_n 0, 1) := by decide +kernel
theorem dX7_machine_54 : decode cX7_machine 54 = .ok (.getfield 32, 3) := by decide +kernel
theorem dX7_machine_57 : decode cX7_machine 57 = .ok (.iconst 4, 1) := by decide +kernel
theorem dX7_machine_58 : decode cX7_machine 58 = .ok (.iload_n 2, 1) := by decide +kernel
theorem dX7_machine_59 : decode cX7_machine 59 = .ok (.imul, 1) := by decide +kernel
theorem dX7_machine_60 : decode cX7_machine 60 = .ok (.iaload, 1) := by decide +kernel
theorem dX7_machine_61 : decode cX7_machine 61 = .ok (.invokestatic 77, 3) := by decide +kernel
theorem dX7_machine_64 : decode cX7_machine 64 = .ok (.iastore, 1) := by decide +kernel
theorem dX7_machine_65 : decode cX7_machine 65 = .ok (.aload_n 0, 1) := by decide +kernel
theorem dX7_machine_66 : decode cX7_machine 66 = .ok (.getfield 13, 3) := by decide +kernel
theorem dX7_machine_69 : decode cX7_machine 69 = .ok (.iconst 2, 1) := by decide +kernel
theorem dX7_machine_70 : decode cX7_machine 70 = .ok (.iload_n 2, 1) := by decide +kernel
theorem dX7_machine_71 : decode cX7_machine 71 = .ok (.imul, 1) := by decide +kernel
theorem dX7_machine_72 : decode cX7_machine 72 = .ok (.aload_n 0, 1) := by decide +kernel
theorem dX7_machine_73 : decode cX7_machine 73 = .ok (.getfield 32, 3) := by decide +kernel
theorem dX7_machine_76 : decode cX7_machine 76 = .ok (.iconst 4, 1) := by decide +kernel
theorem dX7_machine_77 : decode cX7_machine 77 = .ok (.iload_n 2, 1) := by decide +kernel
theorem dX7_machine_78 : decode cX7_machine 78 = .ok (.imul, 1) := by decide +kernel
theorem dX7_machine_79 : decode cX7_machine 79 = .ok (.iconst 1, 1) := by decide +kernel
theorem dX7_machine_80 : decode cX7_machine 80 = .ok (.iadd, 1) := by decide +kernel
theorem dX7_machine_81 : decode cX7_machine 81 = .ok (.iaload, 1) := by decide +kernel
theorem dX7_machine_82 : decode cX7_machine 82 = .ok (.invokestatic 85, 3) := by decide +kernel
theorem dX7_machine_85 : decode cX7_machine 85 = .ok (.iastore, 1) := by decide +kernel
theorem dX7_machine_86 : decode cX7_machine 86 = .ok (.aload_n 0, 1) := by decide +kernel
theorem dX7_machine_87 : decode cX7_machine 87 = .ok (.getfield 13, 3) := by decide +kernel
theorem dX7_machine_90 : decode cX7_machine 90 = .ok (.iconst 2, 1) := by decide +kernel
theorem dX7_machine_91 : decode cX7_machine 91 = .ok (.iload_n 2, 1) := by decide +kernel
theorem dX7_machine_92 : decode cX7_machine 92 = .ok (.imul, 1) := by decide +kernel
theorem dX7_machine_93 : decode cX7_machine 93 = .ok (.iconst 1, 1) := by decide +kernel
theorem dX7_machine_94 : decode cX7_machine 94 = .ok (.iadd, 1) := by decide +kernel
theorem dX7_machine_95 : decode cX7_machine 95 = .ok (.aload_n 0, 1) := by decide +kernel
theorem dX7_machine_96 : decode cX7_machine 96 = .ok (.getfield 32, 3) := by decide +kernel
theorem dX7_machine_99 : decode cX7_machine 99 = .ok (.iconst 4, 1) := by decide +kernel
theorem dX7_machine_100 : decode cX7_machine 100 = .ok (.iload_n 2, 1) := by decide +kernel
theorem dX7_machine_101 : decode cX7_machine 101 = .ok (.imul, 1) := by decide +kernel
theorem dX7_machine_102 : decode cX7_machine 102 = .ok (.iconst 2, 1) := by decide +kernel
theorem dX7_machine_103 : decode cX7_machine 103 = .ok (.iadd, 1) := by decide +kernel
theorem dX7_machine_104 : decode cX7_machine 104 = .ok (.iaload, 1) := by decide +kernel
theorem dX7_machine_105 : decode cX7_machine 105 = .ok (.invokestatic 85, 3) := by decide +kernel
theorem dX7_machine_108 : decode cX7_machine 108 = .ok (.iastore, 1) := by decide +kernel
theorem dX7_machine_109 : decode cX7_machine 109 = .ok (.iinc 2 1, 3) := by decide +kernel
theorem dX7_machine_112 : decode cX7_machine 112 = .ok (.goto (-69), 3) := by decide +kernel
theorem dX7_machine_115 : decode cX7_machine 115 = .ok (.aload_n 0, 1) := by decide +kernel
theorem dX7_machine_116 : decode cX7_machine 116 = .ok (.iload_n 1, 1) := by decide +kernel
theorem dX7_machine_117 : decode cX7_machine 117 = .ok (.putfield 96, 3) := by decide +kernel
theorem dX7_machine_120 : decode cX7_machine 120 = .ok (.iconst 0, 1) := by decide +kernel
theorem dX7_machine_121 : decode cX7_machine 121 = .ok (.istore_n 2, 1) := by decide +kernel
theorem dX7_machine_122 : decode cX7_machine 122 = .ok (.iload_n 2, 1) := by decide +kernel
theorem dX7_machine_123 : decode cX7_machine 123 = .ok (.iconst 3, 1) := by decide +kernel
theorem dX7_machine_124 : decode cX7_machine 124 = .ok (.if_icmp .ge 16, 3) := by decide +kernel
theorem dX7_machine_127 : decode cX7_machine 127 = .ok (.aload_n 0, 1) := by decide +kernel
theorem dX7_machine_128 : decode cX7_machine 128 = .ok (.getfield 16, 3) := by decide +kernel
theorem dX7_machine_131 : decode cX7_machine 131 = .ok (.iload_n 2, 1) := by decide +kernel
theorem dX7_machine_132 : decode cX7_machine 132 = .ok (.iconst 0, 1) := by decide +kernel
theorem dX7_machine_133 : decode cX7_machine 133 = .ok (.iastore, 1) := by decide +kernel
theorem dX7_machine_134 : decode cX7_machine 134 = .ok (.iinc 2 1, 3) := by decide +kernel
theorem dX7_machine_137 : decode cX7_machine 137 = .ok (.goto (-15), 3) := by decide +kernel
theorem dX7_machine_140 : decode cX7_machine 140 = .ok (.aload_n 0, 1) := by decide +kernel
theorem dX7_machine_141 : decode cX7_machine 141 = .ok (.iconst 0, 1) := by decide +kernel
theorem dX7_machine_142 : decode cX7_machine 142 = .ok (.putfield 99, 3) := by decide +kernel
theorem dX7_machine_145 : decode cX7_machine 145 = .ok (.aload_n 0, 1) := by decide +kernel
theorem dX7_machine_146 : decode cX7_machine 146 = .ok (.dup, 1) := by decide +kernel
theorem dX7_machine_147 : decode cX7_machine 147 = .ok (.getfield 102, 3) := by decide +kernel
theorem dX7_machine_150 : decode cX7_machine 150 = .ok (.iconst 1, 1) := by decide +kernel
theorem dX7_machine_151 : decode cX7_machine 151 = .ok (.iadd, 1) := by decide +kernel
theorem dX7_machine_152 : decode cX7_machine 152 = .ok (.putfield 102, 3) := by decide +kernel
theorem dX7_machine_155 : decode cX7_machine 155 = .ok (.aload_n 0, 1) := by decide +kernel
theorem dX7_machine_156 : decode cX7_machine 156 = .ok (.iconst 0, 1) := by decide +kernel
theorem dX7_machine_157 : decode cX7_machine 157 = .ok (.putfield 73, 3) := by decide +kernel
theorem dX7_machine_160 : decode cX7_machine 160 = .ok (.iload_n 1, 1) := by decide +kernel
theorem dX7_machine_161 : decode cX7_machine 161 = .ok (.ireturn, 1) := by decide +kernel
theorem dX7_isWord_0 : decode cX7_isWord 0 = .ok (.iload_n 1, 1) := by decide +kernel
theorem dX7_isWord_1 : decode cX7_isWord 1 = .ok (.iconst 0, 1) := by decide +kernel
theorem dX7_isWord_2 : decode cX7_isWord 2 = .ok (.iconst 2, 1) := by decide +kernel
theorem dX7_isWord_3 : decode cX7_isWord 3 = .ok (.invokestatic 69, 3) := by decide +kernel
theorem dX7_isWord_6 : decode cX7_isWord 6 = .ok (.ifCond .eq 14, 3) := by decide +kernel
theorem dX7_isWord_9 : decode cX7_isWord 9 = .ok (.aload_n 0, 1) := by decide +kernel
theorem dX7_isWord_10 : decode cX7_isWord 10 = .ok (.getfield 96, 3) := by decide +kernel
theorem dX7_isWord_13 : decode cX7_isWord 13 = .ok (.ifCond .le 7, 3) := by decide +kernel
theorem dX7_isWord_16 : decode cX7_isWord 16 = .ok (.iconst 1, 1) := by decide +kernel
theorem dX7_isWord_17 : decode cX7_isWord 17 = .ok (.goto 4, 3) := by decide +kernel
theorem dX7_isWord_20 : decode cX7_isWord 20 = .ok (.iconst 0, 1) := by decide +kernel
theorem dX7_isWord_21 : decode cX7_isWord 21 = .ok (.ireturn, 1) := by decide +kernel
theorem dX7_letterOf_0 : decode cX7_letterOf 0 = .ok (.iload_n 1, 1) := by decide +kernel
theorem dX7_letterOf_1 : decode cX7_letterOf 1 = .ok (.bipush 97, 2) := by decide +kernel
theorem dX7_letterOf_3 : decode cX7_letterOf 3 = .ok (.bipush 97, 2) := by decide +kernel
theorem dX7_letterOf_5 : decode cX7_letterOf 5 = .ok (.aload_n 0, 1) := by decide +kernel
theorem dX7_letterOf_6 : decode cX7_letterOf 6 = .ok (.getfield 96, 3) := by decide +kernel
theorem dX7_letterOf_9 : decode cX7_letterOf 9 = .ok (.iadd, 1) := by decide +kernel
theorem dX7_letterOf_10 : decode cX7_letterOf 10 = .ok (.iconst 1, 1) := by decide +kernel
theorem dX7_letterOf_11 : decode cX7_letterOf 11 = .ok (.isub, 1) := by decide +kernel
theorem dX7_letterOf_12 : decode cX7_letterOf 12 = .ok (.invokestatic 69, 3) := by decide +kernel
theorem dX7_letterOf_15 : decode cX7_letterOf 15 = .ok (.ifCond .eq 10, 3) := by decide +kernel
theorem dX7_letterOf_18 : decode cX7_letterOf 18 = .ok (.iconst 2, 1) := by decide +kernel
theorem dX7_letterOf_19 : decode cX7_letterOf 19 = .ok (.iload_n 1, 1) := by decide +kernel
theorem dX7_letterOf_20 : decode cX7_letterOf 20 = .ok (.bipush 97, 2) := by decide +kernel
theorem dX7_letterOf_22 : decode cX7_letterOf 22 = .ok (.isub, 1) := by decide +kernel
theorem dX7_letterOf_23 : decode cX7_letterOf 23 = .ok (.imul, 1) := by decide +kernel
theorem dX7_letterOf_24 : decode cX7_letterOf 24 = .ok (.ireturn, 1) := by decide +kernel
theorem dX7_letterOf_25 : decode cX7_letterOf 25 = .ok (.iload_n 1, 1) := by decide +kernel
theorem dX7_letterOf_26 : decode cX7_letterOf 26 = .ok (.bipush 65, 2) := by decide +kernel
theorem dX7_letterOf_28 : decode cX7_letterOf 28 = .ok (.bipush 65, 2) := by decide +kernel
theorem dX7_letterOf_30 : decode cX7_letterOf 30 = .ok (.aload_n 0, 1) := by decide +kernel
theorem dX7_letterOf_31 : decode cX7_letterOf 31 = .ok (.getfield 96, 3) := by decide +kernel
theorem dX7_letterOf_34 : decode cX7_letterOf 34 = .ok (.iadd, 1) := by decide +kernel
theorem dX7_letterOf_35 : decode cX7_letterOf 35 = .ok (.iconst 1, 1) := by decide +kernel
theorem dX7_letterOf_36 : decode cX7_letterOf 36 = .ok (.isub, 1) := by decide +kernel
theorem dX7_letterOf_37 : decode cX7_letterOf 37 = .ok (.invokestatic 69, 3) := by decide +kernel
theorem dX7_letterOf_40 : decode cX7_letterOf 40 = .ok (.ifCond .eq 14, 3) := by decide +kernel
theorem dX7_letterOf_43 : decode cX7_letterOf 43 = .ok (.iconst 2, 1) := by decide +kernel
theorem dX7_letterOf_44 : decode cX7_letterOf 44 = .ok (.iload_n 1, 1) := by decide +kernel
theorem dX7_letterOf_45 : decode cX7_letterOf 45 = .ok (.bipush 65, 2) := by decide +kernel
theorem dX7_letterOf_47 : decode cX7_letterOf 47 = .ok (.isub, 1) := by decide +kernel
theorem dX7_letterOf_48 : decode cX7_letterOf 48 = .ok (.imul, 1) := by decide +kernel
theorem dX7_letterOf_49 : decode cX7_letterOf 49 = .ok (.iconst 1, 1) := by decide +kernel
theorem dX7_letterOf_50 : decode cX7_letterOf 50 = .ok (.iadd, 1) := by decide +kernel
theorem dX7_letterOf_51 : decode cX7_letterOf 51 = .ok (.goto 4, 3) := by decide +kernel
theorem dX7_letterOf_54 : decode cX7_letterOf 54 = .ok (.iconst (-1), 1) := by decide +kernel
theorem dX7_letterOf_55 : decode cX7_letterOf 55 = .ok (.ireturn, 1) := by decide +kernel
theorem dX7_begin_0 : decode cX7_begin 0 = .ok (.aload_n 0, 1) := by decide +kernel
theorem dX7_begin_1 : decode cX7_begin 1 = .ok (.iconst 0, 1) := by decide +kernel
theorem dX7_begin_2 : decode cX7_begin 2 = .ok (.putfield 105, 3) := by decide +kernel
theorem dX7_begin_5 : decode cX7_begin 5 = .ok (.return_, 1) := by decide +kernel
theorem dX7_comes_0 : decode cX7_comes 0 = .ok (.aload_n 0, 1) := by decide +kernel
theorem dX7_comes_1 : decode cX7_comes 1 = .ok (.getfield 105, 3) := by decide +kernel
theorem dX7_comes_4 : decode cX7_comes 4 = .ok (.ifCond .le 33, 3) := by decide +kernel
theorem dX7_comes_7 : decode cX7_comes 7 = .ok (.aload_n 0, 1) := by decide +kernel
theorem dX7_comes_8 : decode cX7_comes 8 = .ok (.getfield 35, 3) := by decide +kernel
theorem dX7_comes_11 : decode cX7_comes 11 = .ok (.aload_n 0, 1) := by decide +kernel
theorem dX7_comes_12 : decode cX7_comes 12 = .ok (.getfield 105, 3) := by decide +kernel
theorem dX7_comes_15 : decode cX7_comes 15 = .ok (.iconst 1, 1) := by decide +kernel
theorem dX7_comes_16 : decode cX7_comes 16 = .ok (.isub, 1) := by decide +kernel
theorem dX7_comes_17 : decode cX7_comes 17 = .ok (.iaload, 1) := by decide +kernel
theorem dX7_comes_18 : decode cX7_comes 18 = .ok (.iconst 1, 1) := by decide +kernel
theorem dX7_comes_19 : decode cX7_comes 19 = .ok (.ixor, 1) := by decide +kernel
theorem dX7_comes_20 : decode cX7_comes 20 = .ok (.iload_n 1, 1) := by decide +kernel
theorem dX7_comes_21 : decode cX7_comes 21 = .ok (.if_icmp .ne 16, 3) := by decide +kernel
theorem dX7_comes_24 : decode cX7_comes 24 = .ok (.aload_n 0, 1) := by decide +kernel
theorem dX7_comes_25 : decode cX7_comes 25 = .ok (.dup, 1) := by decide +kernel
theorem dX7_comes_26 : decode cX7_comes 26 = .ok (.getfield 105, 3) := by decide +kernel
theorem dX7_comes_29 : decode cX7_comes 29 = .ok (.iconst 1, 1) := by decide +kernel
theorem dX7_comes_30 : decode cX7_comes 30 = .ok (.isub, 1) := by decide +kernel
theorem dX7_comes_31 : decode cX7_comes 31 = .ok (.putfield 105, 3) := by decide +kernel
theorem dX7_comes_34 : decode cX7_comes 34 = .ok (.goto 23, 3) := by decide +kernel
theorem dX7_comes_37 : decode cX7_comes 37 = .ok (.aload_n 0, 1) := by decide +kernel
theorem dX7_comes_38 : decode cX7_comes 38 = .ok (.getfield 35, 3) := by decide +kernel
theorem dX7_comes_41 : decode cX7_comes 41 = .ok (.aload_n 0, 1) := by decide +kernel
theorem dX7_comes_42 : decode cX7_comes 42 = .ok (.getfield 105, 3) := by decide +kernel
theorem dX7_comes_45 : decode cX7_comes 45 = .ok (.iload_n 1, 1) := by decide +kernel
theorem dX7_comes_46 : decode cX7_comes 46 = .ok (.iastore, 1) := by decide +kernel
theorem dX7_comes_47 : decode cX7_comes 47 = .ok (.aload_n 0, 1) := by decide +kernel
theorem dX7_comes_48 : decode cX7_comes 48 = .ok (.dup, 1) := by decide +kernel
theorem dX7_comes_49 : decode cX7_comes 49 = .ok (.getfield 105, 3) := by decide +kernel
theorem dX7_comes_52 : decode cX7_comes 52 = .ok (.iconst 1, 1) := by decide +kernel
theorem dX7_comes_53 : decode cX7_comes 53 = .ok (.iadd, 1) := by decide +kernel
theorem dX7_comes_54 : decode cX7_comes 54 = .ok (.putfield 105, 3) := by decide +kernel
theorem dX7_comes_57 : decode cX7_comes 57 = .ok (.return_, 1) := by decide +kernel
theorem dX7_comesWord_0 : decode cX7_comesWord 0 = .ok (.iconst 0, 1) := by decide +kernel
theorem dX7_comesWord_1 : decode cX7_comesWord 1 = .ok (.istore_n 2, 1) := by decide +kernel
theorem dX7_comesWord_2 : decode cX7_comesWord 2 = .ok (.iload_n 2, 1) := by decide +kernel
theorem dX7_comesWord_3 : decode cX7_comesWord 3 = .ok (.aload_n 0, 1) := by decide +kernel
theorem dX7_comesWord_4 : decode cX7_comesWord 4 = .ok (.getfield 16, 3) := by decide +kernel
theorem dX7_comesWord_7 : decode cX7_comesWord 7 = .ok (.iload_n 1, 1) := by decide +kernel
theorem dX7_comesWord_8 : decode cX7_comesWord 8 = .ok (.iaload, 1) := by decide +kernel
theorem dX7_comesWord_9 : decode cX7_comesWord 9 = .ok (.if_icmp .ge 24, 3) := by decide +kernel
theorem dX7_comesWord_12 : decode cX7_comesWord 12 = .ok (.aload_n 0, 1) := by decide +kernel
theorem dX7_comesWord_13 : decode cX7_comesWord 13 = .ok (.aload_n 0, 1) := by decide +kernel
theorem dX7_comesWord_14 : decode cX7_comesWord 14 = .ok (.getfield 19, 3) := by decide +kernel
theorem dX7_comesWord_17 : decode cX7_comesWord 17 = .ok (.bipush 16, 2) := by decide +kernel
theorem dX7_comesWord_19 : decode cX7_comesWord 19 = .ok (.iload_n 1, 1) := by decide +kernel
theorem dX7_comesWord_20 : decode cX7_comesWord 20 = .ok (.imul, 1) := by decide +kernel
theorem dX7_comesWord_21 : decode cX7_comesWord 21 = .ok (.iload_n 2, 1) := by decide +kernel
theorem dX7_comesWord_22 : decode cX7_comesWord 22 = .ok (.iadd, 1) := by decide +kernel
theorem dX7_comesWord_23 : decode cX7_comesWord 23 = .ok (.iaload, 1) := by decide +kernel
theorem dX7_comesWord_24 : decode cX7_comesWord 24 = .ok (.invokevirtual 108, 3) := by decide +kernel
theorem dX7_comesWord_27 : decode cX7_comesWord 27 = .ok (.iinc 2 1, 3) := by decide +kernel
theorem dX7_comesWord_30 : decode cX7_comesWord 30 = .ok (.goto (-28), 3) := by decide +kernel
theorem dX7_comesWord_33 : decode cX7_comesWord 33 = .ok (.return_, 1) := by decide +kernel
theorem dX7_comesInverse_0 : decode cX7_comesInverse 0 = .ok (.aload_n 0, 1) := by decide +kernel
theorem dX7_comesInverse_1 : decode cX7_comesInverse 1 = .ok (.getfield 16, 3) := by decide +kernel
theorem dX7_comesInverse_4 : decode cX7_comesInverse 4 = .ok (.iload_n 1, 1) := by decide +kernel
theorem dX7_comesInverse_5 : decode cX7_comesInverse 5 = .ok (.iaload, 1) := by decide +kernel
theorem dX7_comesInverse_6 : decode cX7_comesInverse 6 = .ok (.iconst 1, 1) := by decide +kernel
theorem dX7_comesInverse_7 : decode cX7_comesInverse 7 = .ok (.isub, 1) := by decide +kernel
theorem dX7_comesInverse_8 : decode cX7_comesInverse 8 = .ok (.istore_n 2, 1) := by decide +kernel
theorem dX7_comesInverse_9 : decode cX7_comesInverse 9 = .ok (.iload_n 2, 1) := by decide +kernel
theorem dX7_comesInverse_10 : decode cX7_comesInverse 10 = .ok (.ifCond .lt 26, 3) := by decide +kernel
theorem dX7_comesInverse_13 : decode cX7_comesInverse 13 = .ok (.aload_n 0, 1) := by decide +kernel
theorem dX7_comesInverse_14 : decode cX7_comesInverse 14 = .ok (.aload_n 0, 1) := by decide +kernel
theorem dX7_comesInverse_15 : decode cX7_comesInverse 15 = .ok (.getfield 19, 3) := by decide +kernel
theorem dX7_comesInverse_18 : decode cX7_comesInverse 18 = .ok (.bipush 16, 2) := by decide +kernel
theorem dX7_comesInverse_20 : decode cX7_comesInverse 20 = .ok (.iload_n 1, 1) := by decide +kernel
theorem dX7_comesInverse_21 : decode cX7_comesInverse 21 = .ok (.imul, 1) := by decide +kernel
theorem dX7_comesInverse_22 : decode cX7_comesInverse 22 = .ok (.iload_n 2, 1) := by decide +kernel
theorem dX7_comesInverse_23 : decode cX7_comesInverse 23 = .ok (.iadd, 1) := by decide +kernel
theorem dX7_comesInverse_24 : decode cX7_comesInverse 24 = .ok (.iaload, 1) := by decide +kernel
theorem dX7_comesInverse_25 : decode cX7_comesInverse 25 = .ok (.iconst 1, 1) := by decide +kernel
theorem dX7_comesInverse_26 : decode cX7_comesInverse 26 = .ok (.ixor, 1) := by decide +kernel
theorem dX7_comesInverse_27 : decode cX7_comesInverse 27 = .ok (.invokevirtual 108, 3) := by decide +kernel
theorem dX7_comesInverse_30 : decode cX7_comesInverse 30 = .ok (.iinc 2 (-1), 3) := by decide +kernel
theorem dX7_comesInverse_33 : decode cX7_comesInverse 33 = .ok (.goto (-24), 3) := by decide +kernel
theorem dX7_comesInverse_36 : decode cX7_comesInverse 36 = .ok (.return_, 1) := by decide +kernel
theorem dX7_keepMade_0 : decode cX7_keepMade 0 = .ok (.aload_n 0, 1) := by decide +kernel
theorem dX7_keepMade_1 : decode cX7_keepMade 1 = .ok (.getfield 16, 3) := by decide +kernel
theorem dX7_keepMade_4 : decode cX7_keepMade 4 = .ok (.iload_n 1, 1) := by decide +kernel
theorem dX7_keepMade_5 : decode cX7_keepMade 5 = .ok (.aload_n 0, 1) := by decide +kernel
theorem dX7_keepMade_6 : decode cX7_keepMade 6 = .ok (.getfield 105, 3) := by decide +kernel
theorem dX7_keepMade_9 : decode cX7_keepMade 9 = .ok (.iastore, 1) := by decide +kernel
theorem dX7_keepMade_10 : decode cX7_keepMade 10 = .ok (.iconst 0, 1) := by decide +kernel
theorem dX7_keepMade_11 : decode cX7_keepMade 11 = .ok (.istore_n 2, 1) := by decide +kernel
theorem dX7_keepMade_12 : decode cX7_keepMade 12 = .ok (.iload_n 2, 1) := by decide +kernel
theorem dX7_keepMade_13 : decode cX7_keepMade 13 = .ok (.aload_n 0, 1) := by decide +kernel
theorem dX7_keepMade_14 : decode cX7_keepMade 14 = .ok (.getfield 105, 3) := by decide +kernel
theorem dX7_keepMade_17 : decode cX7_keepMade 17 = .ok (.if_icmp .ge 26, 3) := by decide +kernel
theorem dX7_keepMade_20 : decode cX7_keepMade 20 = .ok (.aload_n 0, 1) := by decide +kernel
theorem dX7_keepMade_21 : decode cX7_keepMade 21 = .ok (.getfield 19, 3) := by decide +kernel
theorem dX7_keepMade_24 : decode cX7_keepMade 24 = .ok (.bipush 16, 2) := by decide +kernel
theorem dX7_keepMade_26 : decode cX7_keepMade 26 = .ok (.iload_n 1, 1) := by decide +kernel
theorem dX7_keepMade_27 : decode cX7_keepMade 27 = .ok (.imul, 1) := by decide +kernel
theorem dX7_keepMade_28 : decode cX7_keepMade 28 = .ok (.iload_n 2, 1) := by decide +kernel
theorem dX7_keepMade_29 : decode cX7_keepMade 29 = .ok (.iadd, 1) := by decide +kernel
theorem dX7_keepMade_30 : decode cX7_keepMade 30 = .ok (.aload_n 0, 1) := by decide +kernel
theorem dX7_keepMade_31 : decode cX7_keepMade 31 = .ok (.getfield 35, 3) := by decide +kernel
theorem dX7_keepMade_34 : decode cX7_keepMade 34 = .ok (.iload_n 2, 1) := by decide +kernel
theorem dX7_keepMade_35 : decode cX7_keepMade 35 = .ok (.iaload, 1) := by decide +kernel
theorem dX7_keepMade_36 : decode cX7_keepMade 36 = .ok (.iastore, 1) := by decide +kernel
theorem dX7_keepMade_37 : decode cX7_keepMade 37 = .ok (.iinc 2 1, 3) := by decide +kernel
theorem dX7_keepMade_40 : decode cX7_keepMade 40 = .ok (.goto (-28), 3) := by decide +kernel
theorem dX7_keepMade_43 : decode cX7_keepMade 43 = .ok (.aload_n 0, 1) := by decide +kernel
theorem dX7_keepMade_44 : decode cX7_keepMade 44 = .ok (.getfield 105, 3) := by decide +kernel
theorem dX7_keepMade_47 : decode cX7_keepMade 47 = .ok (.ireturn, 1) := by decide +kernel
theorem dX7_word_0 : decode cX7_word 0 = .ok (.aload_n 0, 1) := by decide +kernel
theorem dX7_word_1 : decode cX7_word 1 = .ok (.iload_n 1, 1) := by decide +kernel
theorem dX7_word_2 : decode cX7_word 2 = .ok (.invokevirtual 112, 3) := by decide +kernel
theorem dX7_word_5 : decode cX7_word 5 = .ok (.ifCond .ne 6, 3) := by decide +kernel
theorem dX7_word_8 : decode cX7_word 8 = .ok (.bipush (-101), 2) := by decide +kernel
theorem dX7_word_10 : decode cX7_word 10 = .ok (.ireturn, 1) := by decide +kernel
theorem dX7_word_11 : decode cX7_word 11 = .ok (.aload_n 0, 1) := by decide +kernel
theorem dX7_word_12 : decode cX7_word 12 = .ok (.getfield 73, 3) := by decide +kernel
theorem dX7_word_15 : decode cX7_word 15 = .ok (.bipush 8, 2) := by decide +kernel
theorem dX7_word_17 : decode cX7_word 17 = .ok (.if_icmp .gt 7, 3) := by decide +kernel
theorem dX7_word_20 : decode cX7_word 20 = .ok (.iconst 1, 1) := by decide +kernel
theorem dX7_word_21 : decode cX7_word 21 = .ok (.goto 4, 3) := by decide +kernel
theorem dX7_word_24 : decode cX7_word 24 = .ok (.iconst 0, 1) := by decide +kernel
theorem dX7_word_25 : decode cX7_word 25 = .ok (.istore_n 2, 1) := by decide +kernel
theorem dX7_word_26 : decode cX7_word 26 = .ok (.iconst 0, 1) := by decide +kernel
theorem dX7_word_27 : decode cX7_word 27 = .ok (.istore_n 3, 1) := by decide +kernel
theorem dX7_word_28 : decode cX7_word 28 = .ok (.iload_n 3, 1) := by decide +kernel
theorem dX7_word_29 : decode cX7_word 29 = .ok (.aload_n 0, 1) := by decide +kernel
theorem dX7_word_30 : decode cX7_word 30 = .ok (.getfield 73, 3) := by decide +kernel
theorem dX7_word_33 : decode cX7_word 33 = .ok (.if_icmp .ge 33, 3) := by decide +kernel
theorem dX7_word_36 : decode cX7_word 36 = .ok (.iload_n 2, 1) := by decide +kernel
theorem dX7_word_37 : decode cX7_word 37 = .ok (.ifCond .eq 21, 3) := by decide +kernel
theorem dX7_word_40 : decode cX7_word 40 = .ok (.aload_n 0, 1) := by decide +kernel
theorem dX7_word_41 : decode cX7_word 41 = .ok (.aload_n 0, 1) := by decide +kernel
theorem dX7_word_42 : decode cX7_word 42 = .ok (.getfield 32, 3) := by decide +kernel
theorem dX7_word_45 : decode cX7_word 45 = .ok (.iload_n 3, 1) := by decide +kernel
theorem dX7_word_46 : decode cX7_word 46 = .ok (.iaload, 1) := by decide +kernel
theorem dX7_word_47 : decode cX7_word 47 = .ok (.invokevirtual 115, 3) := by decide +kernel
theorem dX7_word_50 : decode cX7_word 50 = .ok (.iconst (-1), 1) := by decide +kernel
theorem dX7_word_51 : decode cX7_word 51 = .ok (.if_icmp .eq 7, 3) := by decide +kernel
theorem dX7_word_54 : decode cX7_word 54 = .ok (.iconst 1, 1) := by decide +kernel
theorem dX7_word_55 : decode cX7_word 55 = .ok (.goto 4, 3) := by decide +kernel
theorem dX7_word_58 : decode cX7_word 58 = .ok (.iconst 0, 1) := by decide +kernel
theorem dX7_word_59 : decode cX7_word 59 = .ok (.istore_n 2, 1) := by decide +kernel
theorem dX7_word_60 : decode cX7_word 60 = .ok (.iinc 3 1, 3) := by decide +kernel
theorem dX7_word_63 : decode cX7_word 63 = .ok (.goto (-35), 3) := by decide +kernel
theorem dX7_word_66 : decode cX7_word 66 = .ok (.iload_n 2, 1) := by decide +kernel
theorem dX7_word_67 : decode cX7_word 67 = .ok (.ifCond .ne 6, 3) := by decide +kernel
theorem dX7_word_70 : decode cX7_word 70 = .ok (.bipush (-103), 2) := by decide +kernel
theorem dX7_word_72 : decode cX7_word 72 = .ok (.ireturn, 1) := by decide +kernel
theorem dX7_word_73 : decode cX7_word 73 = .ok (.aload_n 0, 1) := by decide +kernel
theorem dX7_word_74 : decode cX7_word 74 = .ok (.invokevirtual 118, 3) := by decide +kernel
theorem dX7_word_77 : decode cX7_word 77 = .ok (.iconst 0, 1) := by decide +kernel
theorem dX7_word_78 : decode cX7_word 78 = .ok (.istore_n 3, 1) := by decide +kernel
theorem dX7_word_79 : decode cX7_word 79 = .ok (.iload_n 3, 1) := by decide +kernel
theorem dX7_word_80 : decode cX7_word 80 = .ok (.aload_n 0, 1) := by decide +kernel
theorem dX7_word_81 : decode cX7_word 81 = .ok (.getfield 73, 3) := by decide +kernel
theorem dX7_word_84 : decode cX7_word 84 = .ok (.if_icmp .ge 23, 3) := by decide +kernel
theorem dX7_word_87 : decode cX7_word 87 = .ok (.aload_n 0, 1) := by decide +kernel
theorem dX7_word_88 : decode cX7_word 88 = .ok (.aload_n 0, 1) := by decide +kernel
theorem dX7_word_89 : decode cX7_word 89 = .ok (.aload_n 0, 1) := by decide +kernel
theorem dX7_word_90 : decode cX7_word 90 = .ok (.getfield 32, 3) := by decide +kernel
theorem dX7_word_93 : decode cX7_word 93 = .ok (.iload_n 3, 1) := by decide +kernel
theorem dX7_word_94 : decode cX7_word 94 = .ok (.iaload, 1) := by decide +kernel
theorem dX7_word_95 : decode cX7_word 95 = .ok (.invokevirtual 115, 3) := by decide +kernel
theorem dX7_word_98 : decode cX7_word 98 = .ok (.invokevirtual 108, 3) := by decide +kernel
theorem dX7_word_101 : decode cX7_word 101 = .ok (.iinc 3 1, 3) := by decide +kernel
theorem dX7_word_104 : decode cX7_word 104 = .ok (.goto (-25), 3) := by decide +kernel
theorem dX7_word_107 : decode cX7_word 107 = .ok (.aload_n 0, 1) := by decide +kernel
theorem dX7_word_108 : decode cX7_word 108 = .ok (.iconst 0, 1) := by decide +kernel
theorem dX7_word_109 : decode cX7_word 109 = .ok (.putfield 73, 3) := by decide +kernel
theorem dX7_word_112 : decode cX7_word 112 = .ok (.aload_n 0, 1) := by decide +kernel
theorem dX7_word_113 : decode cX7_word 113 = .ok (.iload_n 1, 1) := by decide +kernel
theorem dX7_word_114 : decode cX7_word 114 = .ok (.invokevirtual 121, 3) := by decide +kernel
theorem dX7_word_117 : decode cX7_word 117 = .ok (.ireturn, 1) := by decide +kernel
theorem dX7_flipOf_0 : decode cX7_flipOf 0 = .ok (.aload_n 0, 1) := by decide +kernel
theorem dX7_flipOf_1 : decode cX7_flipOf 1 = .ok (.getfield 7, 3) := by decide +kernel
theorem dX7_flipOf_4 : decode cX7_flipOf 4 = .ok (.iload_n 1, 1) := by decide +kernel
theorem dX7_flipOf_5 : decode cX7_flipOf 5 = .ok (.iaload, 1) := by decide +kernel
theorem dX7_flipOf_6 : decode cX7_flipOf 6 = .ok (.iconst 1, 1) := by decide +kernel
theorem dX7_flipOf_7 : decode cX7_flipOf 7 = .ok (.if_icmp .eq 23, 3) := by decide +kernel
theorem dX7_flipOf_10 : decode cX7_flipOf 10 = .ok (.aload_n 0, 1) := by decide +kernel
theorem dX7_flipOf_11 : decode cX7_flipOf 11 = .ok (.getfield 7, 3) := by decide +kernel
theorem dX7_flipOf_14 : decode cX7_flipOf 14 = .ok (.iload_n 1, 1) := by decide +kernel
theorem dX7_flipOf_15 : decode cX7_flipOf 15 = .ok (.iaload, 1) := by decide +kernel
theorem dX7_flipOf_16 : decode cX7_flipOf 16 = .ok (.iconst 2, 1) := by decide +kernel
theorem dX7_flipOf_17 : decode cX7_flipOf 17 = .ok (.if_icmp .eq 13, 3) := by decide +kernel
theorem dX7_flipOf_20 : decode cX7_flipOf 20 = .ok (.aload_n 0, 1) := by decide +kernel
theorem dX7_flipOf_21 : decode cX7_flipOf 21 = .ok (.getfield 7, 3) := by decide +kernel
theorem dX7_flipOf_24 : decode cX7_flipOf 24 = .ok (.iload_n 1, 1) := by decide +kernel
theorem dX7_flipOf_25 : decode cX7_flipOf 25 = .ok (.iaload, 1) := by decide +kernel
theorem dX7_flipOf_26 : decode cX7_flipOf 26 = .ok (.iconst 4, 1) := by decide +kernel
theorem dX7_flipOf_27 : decode cX7_flipOf 27 = .ok (.if_icmp .ne 7, 3) := by decide +kernel
theorem dX7_flipOf_30 : decode cX7_flipOf 30 = .ok (.iconst 1, 1) := by decide +kernel
theorem dX7_flipOf_31 : decode cX7_flipOf 31 = .ok (.goto 4, 3) := by decide +kernel
theorem dX7_flipOf_34 : decode cX7_flipOf 34 = .ok (.iconst 0, 1) := by decide +kernel
theorem dX7_flipOf_35 : decode cX7_flipOf 35 = .ok (.ireturn, 1) := by decide +kernel
theorem dX7_goesOn_0 : decode cX7_goesOn 0 = .ok (.aload_n 0, 1) := by decide +kernel
theorem dX7_goesOn_1 : decode cX7_goesOn 1 = .ok (.getfield 7, 3) := by decide +kernel
theorem dX7_goesOn_4 : decode cX7_goesOn 4 = .ok (.iload_n 1, 1) := by decide +kernel
theorem dX7_goesOn_5 : decode cX7_goesOn 5 = .ok (.iaload, 1) := by decide +kernel
theorem dX7_goesOn_6 : decode cX7_goesOn 6 = .ok (.tableswitch 50 0 2 #[26, 26, 37], 26) := by decide +kernel
theorem dX7_goesOn_32 : decode cX7_goesOn 32 = .ok (.aload_n 0, 1) := by decide +kernel
theorem dX7_goesOn_33 : decode cX7_goesOn 33 = .ok (.getfield 13, 3) := by decide +kernel
theorem dX7_goesOn_36 : decode cX7_goesOn 36 = .ok (.iconst 2, 1) := by decide +kernel
theorem dX7_goesOn_37 : decode cX7_goesOn 37 = .ok (.iload_n 1, 1) := by decide +kernel
theorem dX7_goesOn_38 : decode cX7_goesOn 38 = .ok (.imul, 1) := by decide +kernel
theorem dX7_goesOn_39 : decode cX7_goesOn 39 = .ok (.iload_n 2, 1) := by decide +kernel
theorem dX7_goesOn_40 : decode cX7_goesOn 40 = .ok (.iadd, 1) := by decide +kernel
theorem dX7_goesOn_41 : decode cX7_goesOn 41 = .ok (.iaload, 1) := by decide +kernel
theorem dX7_goesOn_42 : decode cX7_goesOn 42 = .ok (.ireturn, 1) := by decide +kernel
theorem dX7_goesOn_43 : decode cX7_goesOn 43 = .ok (.aload_n 0, 1) := by decide +kernel
theorem dX7_goesOn_44 : decode cX7_goesOn 44 = .ok (.getfield 13, 3) := by decide +kernel
theorem dX7_goesOn_47 : decode cX7_goesOn 47 = .ok (.iconst 2, 1) := by decide +kernel
theorem dX7_goesOn_48 : decode cX7_goesOn 48 = .ok (.iload_n 1, 1) := by decide +kernel
theorem dX7_goesOn_49 : decode cX7_goesOn 49 = .ok (.imul, 1) := by decide +kernel
theorem dX7_goesOn_50 : decode cX7_goesOn 50 = .ok (.iconst 1, 1) := by decide +kernel
theorem dX7_goesOn_51 : decode cX7_goesOn 51 = .ok (.iadd, 1) := by decide +kernel
theorem dX7_goesOn_52 : decode cX7_goesOn 52 = .ok (.iload_n 2, 1) := by decide +kernel
theorem dX7_goesOn_53 : decode cX7_goesOn 53 = .ok (.isub, 1) := by decide +kernel
theorem dX7_goesOn_54 : decode cX7_goesOn 54 = .ok (.iaload, 1) := by decide +kernel
theorem dX7_goesOn_55 : decode cX7_goesOn 55 = .ok (.ireturn, 1) := by decide +kernel
theorem dX7_goesOn_56 : decode cX7_goesOn 56 = .ok (.iconst (-1), 1) := by decide +kernel
theorem dX7_goesOn_57 : decode cX7_goesOn 57 = .ok (.ireturn, 1) := by decide +kernel
theorem dX7_letterOn_0 : decode cX7_letterOn 0 = .ok (.iload_n 1, 1) := by decide +kernel
theorem dX7_letterOn_1 : decode cX7_letterOn 1 = .ok (.iconst 2, 1) := by decide +kernel
theorem dX7_letterOn_2 : decode cX7_letterOn 2 = .ok (.idiv, 1) := by decide +kernel
theorem dX7_letterOn_3 : decode cX7_letterOn 3 = .ok (.istore_n 3, 1) := by decide +kernel
theorem dX7_letterOn_4 : decode cX7_letterOn 4 = .ok (.iload_n 1, 1) := by decide +kernel
theorem dX7_letterOn_5 : decode cX7_letterOn 5 = .ok (.iconst 2, 1) := by decide +kernel
theorem dX7_letterOn_6 : decode cX7_letterOn 6 = .ok (.irem, 1) := by decide +kernel
theorem dX7_letterOn_7 : decode cX7_letterOn 7 = .ok (.istore 4, 2) := by decide +kernel
theorem dX7_letterOn_9 : decode cX7_letterOn 9 = .ok (.aload_n 0, 1) := by decide +kernel
theorem dX7_letterOn_10 : decode cX7_letterOn 10 = .ok (.iload_n 3, 1) := by decide +kernel
theorem dX7_letterOn_11 : decode cX7_letterOn 11 = .ok (.iload_n 2, 1) := by decide +kernel
theorem dX7_letterOn_12 : decode cX7_letterOn 12 = .ok (.iload 4, 2) := by decide +kernel
theorem dX7_letterOn_14 : decode cX7_letterOn 14 = .ok (.aload_n 0, 1) := by decide +kernel
theorem dX7_letterOn_15 : decode cX7_letterOn 15 = .ok (.iload_n 3, 1) := by decide +kernel
theorem dX7_letterOn_16 : decode cX7_letterOn 16 = .ok (.invokevirtual 124, 3) := by decide +kernel
theorem dX7_letterOn_19 : decode cX7_letterOn 19 = .ok (.imul, 1) := by decide +kernel
theorem dX7_letterOn_20 : decode cX7_letterOn 20 = .ok (.ixor, 1) := by decide +kernel
theorem dX7_letterOn_21 : decode cX7_letterOn 21 = .ok (.invokevirtual 127, 3) := by decide +kernel
theorem dX7_letterOn_24 : decode cX7_letterOn 24 = .ok (.istore 5, 2) := by decide +kernel
theorem dX7_letterOn_26 : decode cX7_letterOn 26 = .ok (.iload 5, 2) := by decide +kernel
theorem dX7_letterOn_28 : decode cX7_letterOn 28 = .ok (.iconst (-1), 1) := by decide +kernel
theorem dX7_letterOn_29 : decode cX7_letterOn 29 = .ok (.if_icmp .ne 7, 3) := by decide +kernel
theorem dX7_letterOn_32 : decode cX7_letterOn 32 = .ok (.iconst (-1), 1) := by decide +kernel
theorem dX7_letterOn_33 : decode cX7_letterOn 33 = .ok (.goto 10, 3) := by decide +kernel
theorem dX7_letterOn_36 : decode cX7_letterOn 36 = .ok (.iconst 2, 1) := by decide +kernel
theorem dX7_letterOn_37 : decode cX7_letterOn 37 = .ok (.iload 5, 2) := by decide +kernel
theorem dX7_letterOn_39 : decode cX7_letterOn 39 = .ok (.imul, 1) := by decide +kernel
theorem dX7_letterOn_40 : decode cX7_letterOn 40 = .ok (.iload 4, 2) := by decide +kernel
theorem dX7_letterOn_42 : decode cX7_letterOn 42 = .ok (.iadd, 1) := by decide +kernel
theorem dX7_letterOn_43 : decode cX7_letterOn 43 = .ok (.ireturn, 1) := by decide +kernel
theorem dX7_actLetter_0 : decode cX7_actLetter 0 = .ok (.iload_n 1, 1) := by decide +kernel
theorem dX7_actLetter_1 : decode cX7_actLetter 1 = .ok (.istore 4, 2) := by decide +kernel
theorem dX7_actLetter_3 : decode cX7_actLetter 3 = .ok (.iload_n 2, 1) := by decide +kernel
theorem dX7_actLetter_4 : decode cX7_actLetter 4 = .ok (.istore 5, 2) := by decide +kernel
theorem dX7_actLetter_6 : decode cX7_actLetter 6 = .ok (.iload_n 3, 1) := by decide +kernel
theorem dX7_actLetter_7 : decode cX7_actLetter 7 = .ok (.iconst 1, 1) := by decide +kernel
theorem dX7_actLetter_8 : decode cX7_actLetter 8 = .ok (.isub, 1) := by decide +kernel
theorem dX7_actLetter_9 : decode cX7_actLetter 9 = .ok (.istore 6, 2) := by decide +kernel
theorem dX7_actLetter_11 : decode cX7_actLetter 11 = .ok (.iload 6, 2) := by decide +kernel
theorem dX7_actLetter_13 : decode cX7_actLetter 13 = .ok (.ifCond .lt 49, 3) := by decide +kernel
theorem dX7_actLetter_16 : decode cX7_actLetter 16 = .ok (.iload 4, 2) := by decide +kernel
theorem dX7_actLetter_18 : decode cX7_actLetter 18 = .ok (.iconst (-1), 1) := by decide +kernel
theorem dX7_actLetter_19 : decode cX7_actLetter 19 = .ok (.if_icmp .eq 43, 3) := by decide +kernel
theorem dX7_actLetter_22 : decode cX7_actLetter 22 = .ok (.iload_n 2, 1) := by decide +kernel
theorem dX7_actLetter_23 : decode cX7_actLetter 23 = .ok (.iload 6, 2) := by decide +kernel
theorem dX7_actLetter_25 : decode cX7_actLetter 25 = .ok (.ishr, 1) := by decide +kernel
theorem dX7_actLetter_26 : decode cX7_actLetter 26 = .ok (.iconst 1, 1) := by decide +kernel
theorem dX7_actLetter_27 : decode cX7_actLetter 27 = .ok (.iand, 1) := by decide +kernel
theorem dX7_actLetter_28 : decode cX7_actLetter 28 = .ok (.istore 7, 2) := by decide +kernel
theorem dX7_actLetter_30 : decode cX7_actLetter 30 = .ok (.iload 5, 2) := by decide +kernel
theorem dX7_actLetter_32 : decode cX7_actLetter 32 = .ok (.aload_n 0, 1) := by decide +kernel
theorem dX7_actLetter_33 : decode cX7_actLetter 33 = .ok (.iload 4, 2) := by decide +kernel
theorem dX7_actLetter_35 : decode cX7_actLetter 35 = .ok (.iconst 2, 1) := by decide +kernel
theorem dX7_actLetter_36 : decode cX7_actLetter 36 = .ok (.idiv, 1) := by decide +kernel
theorem dX7_actLetter_37 : decode cX7_actLetter 37 = .ok (.invokevirtual 124, 3) := by decide +kernel
theorem dX7_actLetter_40 : decode cX7_actLetter 40 = .ok (.iload 6, 2) := by decide +kernel
theorem dX7_actLetter_42 : decode cX7_actLetter 42 = .ok (.ishl, 1) := by decide +kernel
theorem dX7_actLetter_43 : decode cX7_actLetter 43 = .ok (.ixor, 1) := by decide +kernel
theorem dX7_actLetter_44 : decode cX7_actLetter 44 = .ok (.istore 5, 2) := by decide +kernel
theorem dX7_actLetter_46 : decode cX7_actLetter 46 = .ok (.aload_n 0, 1) := by decide +kernel
theorem dX7_actLetter_47 : decode cX7_actLetter 47 = .ok (.iload 4, 2) := by decide +kernel
theorem dX7_actLetter_49 : decode cX7_actLetter 49 = .ok (.iload 7, 2) := by decide +kernel
theorem dX7_actLetter_51 : decode cX7_actLetter 51 = .ok (.invokevirtual 131, 3) := by decide +kernel
theorem dX7_actLetter_54 : decode cX7_actLetter 54 = .ok (.istore 4, 2) := by decide +kernel
theorem dX7_actLetter_56 : decode cX7_actLetter 56 = .ok (.iinc 6 (-1), 3) := by decide +kernel
theorem dX7_actLetter_59 : decode cX7_actLetter 59 = .ok (.goto (-48), 3) := by decide +kernel
theorem dX7_actLetter_62 : decode cX7_actLetter 62 = .ok (.iload 5, 2) := by decide +kernel
theorem dX7_actLetter_64 : decode cX7_actLetter 64 = .ok (.ireturn, 1) := by decide +kernel
theorem dX7_actWord_0 : decode cX7_actWord 0 = .ok (.iload_n 2, 1) := by decide +kernel
theorem dX7_actWord_1 : decode cX7_actWord 1 = .ok (.istore 4, 2) := by decide +kernel
theorem dX7_actWord_3 : decode cX7_actWord 3 = .ok (.iconst 0, 1) := by decide +kernel
theorem dX7_actWord_4 : decode cX7_actWord 4 = .ok (.istore 5, 2) := by decide +kernel
theorem dX7_actWord_6 : decode cX7_actWord 6 = .ok (.iload 5, 2) := by decide +kernel
theorem dX7_actWord_8 : decode cX7_actWord 8 = .ok (.aload_n 0, 1) := by decide +kernel
theorem dX7_actWord_9 : decode cX7_actWord 9 = .ok (.getfield 16, 3) := by decide +kernel
theorem dX7_actWord_12 : decode cX7_actWord 12 = .ok (.iload_n 1, 1) := by decide +kernel
theorem dX7_actWord_13 : decode cX7_actWord 13 = .ok (.iaload, 1) := by decide +kernel
theorem dX7_actWord_14 : decode cX7_actWord 14 = .ok (.if_icmp .ge 30, 3) := by decide +kernel
theorem dX7_actWord_17 : decode cX7_actWord 17 = .ok (.aload_n 0, 1) := by decide +kernel
theorem dX7_actWord_18 : decode cX7_actWord 18 = .ok (.aload_n 0, 1) := by decide +kernel
theorem dX7_actWord_19 : decode cX7_actWord 19 = .ok (.getfield 19, 3) := by decide +kernel
theorem dX7_actWord_22 : decode cX7_actWord 22 = .ok (.bipush 16, 2) := by decide +kernel
theorem dX7_actWord_24 : decode cX7_actWord 24 = .ok (.iload_n 1, 1) := by decide +kernel
theorem dX7_actWord_25 : decode cX7_actWord 25 = .ok (.imul, 1) := by decide +kernel
theorem dX7_actWord_26 : decode cX7_actWord 26 = .ok (.iload 5, 2) := by decide +kernel
theorem dX7_actWord_28 : decode cX7_actWord 28 = .ok (.iadd, 1) := by decide +kernel
theorem dX7_actWord_29 : decode cX7_actWord 29 = .ok (.iaload, 1) := by decide +kernel
theorem dX7_actWord_30 : decode cX7_actWord 30 = .ok (.iload 4, 2) := by decide +kernel
theorem dX7_actWord_32 : decode cX7_actWord 32 = .ok (.iload_n 3, 1) := by decide +kernel
theorem dX7_actWord_33 : decode cX7_actWord 33 = .ok (.invokevirtual 134, 3) := by decide +kernel
theorem dX7_actWord_36 : decode cX7_actWord 36 = .ok (.istore 4, 2) := by decide +kernel
theorem dX7_actWord_38 : decode cX7_actWord 38 = .ok (.iinc 5 1, 3) := by decide +kernel
theorem dX7_actWord_41 : decode cX7_actWord 41 = .ok (.goto (-35), 3) := by decide +kernel
theorem dX7_actWord_44 : decode cX7_actWord 44 = .ok (.iload 4, 2) := by decide +kernel
theorem dX7_actWord_46 : decode cX7_actWord 46 = .ok (.ireturn, 1) := by decide +kernel
theorem dX7_isAlike_0 : decode cX7_isAlike 0 = .ok (.iconst 1, 1) := by decide +kernel
theorem dX7_isAlike_1 : decode cX7_isAlike 1 = .ok (.istore_n 3, 1) := by decide +kernel
theorem dX7_isAlike_2 : decode cX7_isAlike 2 = .ok (.iconst 0, 1) := by decide +kernel
theorem dX7_isAlike_3 : decode cX7_isAlike 3 = .ok (.istore 4, 2) := by decide +kernel
theorem dX7_isAlike_5 : decode cX7_isAlike 5 = .ok (.iload 4, 2) := by decide +kernel
theorem dX7_isAlike_7 : decode cX7_isAlike 7 = .ok (.sipush 128, 3) := by decide +kernel
theorem dX7_isAlike_10 : decode cX7_isAlike 10 = .ok (.if_icmp .ge 44, 3) := by decide +kernel
theorem dX7_isAlike_13 : decode cX7_isAlike 13 = .ok (.iload_n 3, 1) := by decide +kernel
theorem dX7_isAlike_14 : decode cX7_isAlike 14 = .ok (.ifCond .eq 32, 3) := by decide +kernel
theorem dX7_isAlike_17 : decode cX7_isAlike 17 = .ok (.aload_n 0, 1) := by decide +kernel
theorem dX7_isAlike_18 : decode cX7_isAlike 18 = .ok (.iconst 2, 1) := by decide +kernel
theorem dX7_isAlike_19 : decode cX7_isAlike 19 = .ok (.iload_n 1, 1) := by decide +kernel
theorem dX7_isAlike_20 : decode cX7_isAlike 20 = .ok (.imul, 1) := by decide +kernel
theorem dX7_isAlike_21 : decode cX7_isAlike 21 = .ok (.iload 4, 2) := by decide +kernel
theorem dX7_isAlike_23 : decode cX7_isAlike 23 = .ok (.bipush 7, 2) := by decide +kernel
theorem dX7_isAlike_25 : decode cX7_isAlike 25 = .ok (.invokevirtual 134, 3) := by decide +kernel
theorem dX7_isAlike_28 : decode cX7_isAlike 28 = .ok (.aload_n 0, 1) := by decide +kernel
theorem dX7_isAlike_29 : decode cX7_isAlike 29 = .ok (.iconst 2, 1) := by decide +kernel
theorem dX7_isAlike_30 : decode cX7_isAlike 30 = .ok (.iload_n 2, 1) := by decide +kernel
theorem dX7_isAlike_31 : decode cX7_isAlike 31 = .ok (.imul, 1) := by decide +kernel
theorem dX7_isAlike_32 : decode cX7_isAlike 32 = .ok (.iload 4, 2) := by decide +kernel
theorem dX7_isAlike_34 : decode cX7_isAlike 34 = .ok (.bipush 7, 2) := by decide +kernel
theorem dX7_isAlike_36 : decode cX7_isAlike 36 = .ok (.invokevirtual 134, 3) := by decide +kernel
theorem dX7_isAlike_39 : decode cX7_isAlike 39 = .ok (.if_icmp .ne 7, 3) := by decide +kernel
theorem dX7_isAlike_42 : decode cX7_isAlike 42 = .ok (.iconst 1, 1) := by decide +kernel
theorem dX7_isAlike_43 : decode cX7_isAlike 43 = .ok (.goto 4, 3) := by decide +kernel
theorem dX7_isAlike_46 : decode cX7_isAlike 46 = .ok (.iconst 0, 1) := by decide +kernel
theorem dX7_isAlike_47 : decode cX7_isAlike 47 = .ok (.istore_n 3, 1) := by decide +kernel
theorem dX7_isAlike_48 : decode cX7_isAlike 48 = .ok (.iinc 4 1, 3) := by decide +kernel
theorem dX7_isAlike_51 : decode cX7_isAlike 51 = .ok (.goto (-46), 3) := by decide +kernel
theorem dX7_isAlike_54 : decode cX7_isAlike 54 = .ok (.iload_n 3, 1) := by decide +kernel
theorem dX7_isAlike_55 : decode cX7_isAlike 55 = .ok (.ireturn, 1) := by decide +kernel
theorem dX7_leastAlike_0 : decode cX7_leastAlike 0 = .ok (.iconst 0, 1) := by decide +kernel
theorem dX7_leastAlike_1 : decode cX7_leastAlike 1 = .ok (.istore_n 2, 1) := by decide +kernel
theorem dX7_leastAlike_2 : decode cX7_leastAlike 2 = .ok (.aload_n 0, 1) := by decide +kernel
theorem dX7_leastAlike_3 : decode cX7_leastAlike 3 = .ok (.iload_n 2, 1) := by decide +kernel
theorem dX7_leastAlike_4 : decode cX7_leastAlike 4 = .ok (.iload_n 1, 1) := by decide +kernel
theorem dX7_leastAlike_5 : decode cX7_leastAlike 5 = .ok (.invokevirtual 138, 3) := by decide +kernel
theorem dX7_leastAlike_8 : decode cX7_leastAlike 8 = .ok (.ifCond .ne 9, 3) := by decide +kernel
theorem dX7_leastAlike_11 : decode cX7_leastAlike 11 = .ok (.iinc 2 1, 3) := by decide +kernel
theorem dX7_leastAlike_14 : decode cX7_leastAlike 14 = .ok (.goto (-12), 3) := by decide +kernel
theorem dX7_leastAlike_17 : decode cX7_leastAlike 17 = .ok (.iload_n 2, 1) := by decide +kernel
theorem dX7_leastAlike_18 : decode cX7_leastAlike 18 = .ok (.ireturn, 1) := by decide +kernel
theorem dX7_nextOf_0 : decode cX7_nextOf 0 = .ok (.iconst 0, 1) := by decide +kernel
theorem dX7_nextOf_1 : decode cX7_nextOf 1 = .ok (.istore_n 2, 1) := by decide +kernel
theorem dX7_nextOf_2 : decode cX7_nextOf 2 = .ok (.iconst 0, 1) := by decide +kernel
theorem dX7_nextOf_3 : decode cX7_nextOf 3 = .ok (.istore_n 3, 1) := by decide +kernel
theorem dX7_nextOf_4 : decode cX7_nextOf 4 = .ok (.iload_n 3, 1) := by decide +kernel
theorem dX7_nextOf_5 : decode cX7_nextOf 5 = .ok (.iconst 2, 1) := by decide +kernel
theorem dX7_nextOf_6 : decode cX7_nextOf 6 = .ok (.if_icmp .ge 34, 3) := by decide +kernel
theorem dX7_nextOf_9 : decode cX7_nextOf 9 = .ok (.aload_n 0, 1) := by decide +kernel
theorem dX7_nextOf_10 : decode cX7_nextOf 10 = .ok (.iload_n 1, 1) := by decide +kernel
theorem dX7_nextOf_11 : decode cX7_nextOf 11 = .ok (.iload_n 3, 1) := by decide +kernel
theorem dX7_nextOf_12 : decode cX7_nextOf 12 = .ok (.invokevirtual 127, 3) := by decide +kernel
theorem dX7_nextOf_15 : decode cX7_nextOf 15 = .ok (.istore 4, 2) := by decide +kernel
theorem dX7_nextOf_17 : decode cX7_nextOf 17 = .ok (.iload_n 2, 1) := by decide +kernel
theorem dX7_nextOf_18 : decode cX7_nextOf 18 = .ok (.iload 4, 2) := by decide +kernel
theorem dX7_nextOf_20 : decode cX7_nextOf 20 = .ok (.iconst (-1), 1) := by decide +kernel
theorem dX7_nextOf_21 : decode cX7_nextOf 21 = .ok (.if_icmp .ne 7, 3) := by decide +kernel
theorem dX7_nextOf_24 : decode cX7_nextOf 24 = .ok (.iconst 0, 1) := by decide +kernel
theorem dX7_nextOf_25 : decode cX7_nextOf 25 = .ok (.goto 7, 3) := by decide +kernel
theorem dX7_nextOf_28 : decode cX7_nextOf 28 = .ok (.iconst 1, 1) := by decide +kernel
theorem dX7_nextOf_29 : decode cX7_nextOf 29 = .ok (.iload 4, 2) := by decide +kernel
theorem dX7_nextOf_31 : decode cX7_nextOf 31 = .ok (.ishl, 1) := by decide +kernel
theorem dX7_nextOf_32 : decode cX7_nextOf 32 = .ok (.ior, 1) := by decide +kernel
theorem dX7_nextOf_33 : decode cX7_nextOf 33 = .ok (.istore_n 2, 1) := by decide +kernel
theorem dX7_nextOf_34 : decode cX7_nextOf 34 = .ok (.iinc 3 1, 3) := by decide +kernel
theorem dX7_nextOf_37 : decode cX7_nextOf 37 = .ok (.goto (-33), 3) := by decide +kernel
theorem dX7_nextOf_40 : decode cX7_nextOf 40 = .ok (.iload_n 2, 1) := by decide +kernel
theorem dX7_nextOf_41 : decode cX7_nextOf 41 = .ok (.ireturn, 1) := by decide +kernel
theorem dX7_reach_0 : decode cX7_reach 0 = .ok (.aload_n 0, 1) := by decide +kernel
theorem dX7_reach_1 : decode cX7_reach 1 = .ok (.iload_n 1, 1) := by decide +kernel
theorem dX7_reach_2 : decode cX7_reach 2 = .ok (.invokevirtual 141, 3) := by decide +kernel
theorem dX7_reach_5 : decode cX7_reach 5 = .ok (.istore_n 2, 1) := by decide +kernel
theorem dX7_reach_6 : decode cX7_reach 6 = .ok (.iconst 0, 1) := by decide +kernel
theorem dX7_reach_7 : decode cX7_reach 7 = .ok (.istore_n 3, 1) := by decide +kernel
theorem dX7_reach_8 : decode cX7_reach 8 = .ok (.iload_n 3, 1) := by decide +kernel
theorem dX7_reach_9 : decode cX7_reach 9 = .ok (.bipush 6, 2) := by decide +kernel
theorem dX7_reach_11 : decode cX7_reach 11 = .ok (.if_icmp .ge 49, 3) := by decide +kernel
theorem dX7_reach_14 : decode cX7_reach 14 = .ok (.iconst 0, 1) := by decide +kernel
theorem dX7_reach_15 : decode cX7_reach 15 = .ok (.istore 4, 2) := by decide +kernel
theorem dX7_reach_17 : decode cX7_reach 17 = .ok (.iload 4, 2) := by decide +kernel
theorem dX7_reach_19 : decode cX7_reach 19 = .ok (.aload_n 0, 1) := by decide +kernel
theorem dX7_reach_20 : decode cX7_reach 20 = .ok (.getfield 96, 3) := by decide +kernel
theorem dX7_reach_23 : decode cX7_reach 23 = .ok (.if_icmp .ge 31, 3) := by decide +kernel
theorem dX7_reach_26 : decode cX7_reach 26 = .ok (.iload_n 2, 1) := by decide +kernel
theorem dX7_reach_27 : decode cX7_reach 27 = .ok (.iload_n 2, 1) := by decide +kernel
theorem dX7_reach_28 : decode cX7_reach 28 = .ok (.iload 4, 2) := by decide +kernel
theorem dX7_reach_30 : decode cX7_reach 30 = .ok (.invokestatic 144, 3) := by decide +kernel
theorem dX7_reach_33 : decode cX7_reach 33 = .ok (.ifCond .eq 12, 3) := by decide +kernel
theorem dX7_reach_36 : decode cX7_reach 36 = .ok (.aload_n 0, 1) := by decide +kernel
theorem dX7_reach_37 : decode cX7_reach 37 = .ok (.iload 4, 2) := by decide +kernel
theorem dX7_reach_39 : decode cX7_reach 39 = .ok (.invokevirtual 141, 3) := by decide +kernel
theorem dX7_reach_42 : decode cX7_reach 42 = .ok (.goto 4, 3) := by decide +kernel
theorem dX7_reach_45 : decode cX7_reach 45 = .ok (.iconst 0, 1) := by decide +kernel
theorem dX7_reach_46 : decode cX7_reach 46 = .ok (.ior, 1) := by decide +kernel
theorem dX7_reach_47 : decode cX7_reach 47 = .ok (.istore_n 2, 1) := by decide +kernel
theorem dX7_reach_48 : decode cX7_reach 48 = .ok (.iinc 4 1, 3) := by decide +kernel
theorem dX7_reach_51 : decode cX7_reach 51 = .ok (.goto (-34), 3) := by decide +kernel
theorem dX7_reach_54 : decode cX7_reach 54 = .ok (.iinc 3 1, 3) := by decide +kernel
theorem dX7_reach_57 : decode cX7_reach 57 = .ok (.goto (-49), 3) := by decide +kernel
theorem dX7_reach_60 : decode cX7_reach 60 = .ok (.iload_n 2, 1) := by decide +kernel
theorem dX7_reach_61 : decode cX7_reach 61 = .ok (.ireturn, 1) := by decide +kernel
theorem dX7_could_0 : decode cX7_could 0 = .ok (.iload_n 1, 1) := by decide +kernel
theorem dX7_could_1 : decode cX7_could 1 = .ok (.tableswitch 70 0 2 #[27, 48, 59], 27) := by decide +kernel
theorem dX7_could_28 : decode cX7_could 28 = .ok (.iload_n 0, 1) := by decide +kernel
theorem dX7_could_29 : decode cX7_could 29 = .ok (.iconst 1, 1) := by decide +kernel
theorem dX7_could_30 : decode cX7_could 30 = .ok (.if_icmp .eq 13, 3) := by decide +kernel
theorem dX7_could_33 : decode cX7_could 33 = .ok (.iload_n 0, 1) := by decide +kernel
theorem dX7_could_34 : decode cX7_could 34 = .ok (.iconst 2, 1) := by decide +kernel
theorem dX7_could_35 : decode cX7_could 35 = .ok (.if_icmp .eq 8, 3) := by decide +kernel
theorem dX7_could_38 : decode cX7_could 38 = .ok (.iload_n 0, 1) := by decide +kernel
theorem dX7_could_39 : decode cX7_could 39 = .ok (.iconst 4, 1) := by decide +kernel
theorem dX7_could_40 : decode cX7_could 40 = .ok (.if_icmp .ne 7, 3) := by decide +kernel
theorem dX7_could_43 : decode cX7_could 43 = .ok (.iconst 1, 1) := by decide +kernel
theorem dX7_could_44 : decode cX7_could 44 = .ok (.goto 4, 3) := by decide +kernel
theorem dX7_could_47 : decode cX7_could 47 = .ok (.iconst 0, 1) := by decide +kernel
theorem dX7_could_48 : decode cX7_could 48 = .ok (.ireturn, 1) := by decide +kernel
theorem dX7_could_49 : decode cX7_could 49 = .ok (.iload_n 0, 1) := by decide +kernel
theorem dX7_could_50 : decode cX7_could 50 = .ok (.iconst 3, 1) := by decide +kernel
theorem dX7_could_51 : decode cX7_could 51 = .ok (.if_icmp .ge 7, 3) := by decide +kernel
theorem dX7_could_54 : decode cX7_could 54 = .ok (.iconst 1, 1) := by decide +kernel
theorem dX7_could_55 : decode cX7_could 55 = .ok (.goto 4, 3) := by decide +kernel
theorem dX7_could_58 : decode cX7_could 58 = .ok (.iconst 0, 1) := by decide +kernel
theorem dX7_could_59 : decode cX7_could 59 = .ok (.ireturn, 1) := by decide +kernel
theorem dX7_could_60 : decode cX7_could 60 = .ok (.iload_n 0, 1) := by decide +kernel
theorem dX7_could_61 : decode cX7_could 61 = .ok (.iconst 2, 1) := by decide +kernel
theorem dX7_could_62 : decode cX7_could 62 = .ok (.if_icmp .ne 7, 3) := by decide +kernel
theorem dX7_could_65 : decode cX7_could 65 = .ok (.iconst 1, 1) := by decide +kernel
theorem dX7_could_66 : decode cX7_could 66 = .ok (.goto 4, 3) := by decide +kernel
theorem dX7_could_69 : decode cX7_could 69 = .ok (.iconst 0, 1) := by decide +kernel
theorem dX7_could_70 : decode cX7_could 70 = .ok (.ireturn, 1) := by decide +kernel
theorem dX7_could_71 : decode cX7_could 71 = .ok (.iload_n 0, 1) := by decide +kernel
theorem dX7_could_72 : decode cX7_could 72 = .ok (.iconst 2, 1) := by decide +kernel
theorem dX7_could_73 : decode cX7_could 73 = .ok (.if_icmp .le 7, 3) := by decide +kernel
theorem dX7_could_76 : decode cX7_could 76 = .ok (.iconst 1, 1) := by decide +kernel
theorem dX7_could_77 : decode cX7_could 77 = .ok (.goto 4, 3) := by decide +kernel
theorem dX7_could_80 : decode cX7_could 80 = .ok (.iconst 0, 1) := by decide +kernel
theorem dX7_could_81 : decode cX7_could 81 = .ok (.ireturn, 1) := by decide +kernel
theorem dX7_sorts_0 : decode cX7_sorts 0 = .ok (.iconst 0, 1) := by decide +kernel
theorem dX7_sorts_1 : decode cX7_sorts 1 = .ok (.istore_n 2, 1) := by decide +kernel
theorem dX7_sorts_2 : decode cX7_sorts 2 = .ok (.iconst 0, 1) := by decide +kernel
theorem dX7_sorts_3 : decode cX7_sorts 3 = .ok (.istore_n 3, 1) := by decide +kernel
theorem dX7_sorts_4 : decode cX7_sorts 4 = .ok (.iload_n 3, 1) := by decide +kernel
theorem dX7_sorts_5 : decode cX7_sorts 5 = .ok (.iconst 5, 1) := by decide +kernel
theorem dX7_sorts_6 : decode cX7_sorts 6 = .ok (.if_icmp .ge 89, 3) := by decide +kernel
theorem dX7_sorts_9 : decode cX7_sorts 9 = .ok (.iconst 1, 1) := by decide +kernel
theorem dX7_sorts_10 : decode cX7_sorts 10 = .ok (.istore 4, 2) := by decide +kernel
theorem dX7_sorts_12 : decode cX7_sorts 12 = .ok (.iconst 0, 1) := by decide +kernel
theorem dX7_sorts_13 : decode cX7_sorts 13 = .ok (.istore 5, 2) := by decide +kernel
theorem dX7_sorts_15 : decode cX7_sorts 15 = .ok (.iload 5, 2) := by decide +kernel
theorem dX7_sorts_17 : decode cX7_sorts 17 = .ok (.aload_n 0, 1) := by decide +kernel
theorem dX7_sorts_18 : decode cX7_sorts 18 = .ok (.getfield 99, 3) := by decide +kernel
theorem dX7_sorts_21 : decode cX7_sorts 21 = .ok (.if_icmp .ge 53, 3) := by decide +kernel
theorem dX7_sorts_24 : decode cX7_sorts 24 = .ok (.iload 4, 2) := by decide +kernel
theorem dX7_sorts_26 : decode cX7_sorts 26 = .ok (.ifCond .eq 39, 3) := by decide +kernel
theorem dX7_sorts_29 : decode cX7_sorts 29 = .ok (.aload_n 0, 1) := by decide +kernel
theorem dX7_sorts_30 : decode cX7_sorts 30 = .ok (.getfield 22, 3) := by decide +kernel
theorem dX7_sorts_33 : decode cX7_sorts 33 = .ok (.iload 5, 2) := by decide +kernel
theorem dX7_sorts_35 : decode cX7_sorts 35 = .ok (.iaload, 1) := by decide +kernel
theorem dX7_sorts_36 : decode cX7_sorts 36 = .ok (.iload_n 1, 1) := by decide +kernel
theorem dX7_sorts_37 : decode cX7_sorts 37 = .ok (.if_icmp .ne 24, 3) := by decide +kernel
theorem dX7_sorts_40 : decode cX7_sorts 40 = .ok (.iload_n 3, 1) := by decide +kernel
theorem dX7_sorts_41 : decode cX7_sorts 41 = .ok (.aload_n 0, 1) := by decide +kernel
theorem dX7_sorts_42 : decode cX7_sorts 42 = .ok (.getfield 25, 3) := by decide +kernel
theorem dX7_sorts_45 : decode cX7_sorts 45 = .ok (.iload 5, 2) := by decide +kernel
theorem dX7_sorts_47 : decode cX7_sorts 47 = .ok (.iaload, 1) := by decide +kernel
theorem dX7_sorts_48 : decode cX7_sorts 48 = .ok (.invokestatic 147, 3) := by decide +kernel
theorem dX7_sorts_51 : decode cX7_sorts 51 = .ok (.aload_n 0, 1) := by decide +kernel
theorem dX7_sorts_52 : decode cX7_sorts 52 = .ok (.getfield 28, 3) := by decide +kernel
theorem dX7_sorts_55 : decode cX7_sorts 55 = .ok (.iload 5, 2) := by decide +kernel
theorem dX7_sorts_57 : decode cX7_sorts 57 = .ok (.baload, 1) := by decide +kernel
theorem dX7_sorts_58 : decode cX7_sorts 58 = .ok (.if_icmp .ne 7, 3) := by decide +kernel
theorem dX7_sorts_61 : decode cX7_sorts 61 = .ok (.iconst 1, 1) := by decide +kernel
theorem dX7_sorts_62 : decode cX7_sorts 62 = .ok (.goto 4, 3) := by decide +kernel
theorem dX7_sorts_65 : decode cX7_sorts 65 = .ok (.iconst 0, 1) := by decide +kernel
theorem dX7_sorts_66 : decode cX7_sorts 66 = .ok (.istore 4, 2) := by decide +kernel
theorem dX7_sorts_68 : decode cX7_sorts 68 = .ok (.iinc 5 1, 3) := by decide +kernel
theorem dX7_sorts_71 : decode cX7_sorts 71 = .ok (.goto (-56), 3) := by decide +kernel
theorem dX7_sorts_74 : decode cX7_sorts 74 = .ok (.iload_n 2, 1) := by decide +kernel
theorem dX7_sorts_75 : decode cX7_sorts 75 = .ok (.iload 4, 2) := by decide +kernel
theorem dX7_sorts_77 : decode cX7_sorts 77 = .ok (.ifCond .eq 9, 3) := by decide +kernel
theorem dX7_sorts_80 : decode cX7_sorts 80 = .ok (.iconst 1, 1) := by decide +kernel
theorem dX7_sorts_81 : decode cX7_sorts 81 = .ok (.iload_n 3, 1) := by decide +kernel
theorem dX7_sorts_82 : decode cX7_sorts 82 = .ok (.ishl, 1) := by decide +kernel
theorem dX7_sorts_83 : decode cX7_sorts 83 = .ok (.goto 4, 3) := by decide +kernel
theorem dX7_sorts_86 : decode cX7_sorts 86 = .ok (.iconst 0, 1) := by decide +kernel
theorem dX7_sorts_87 : decode cX7_sorts 87 = .ok (.ior, 1) := by decide +kernel
theorem dX7_sorts_88 : decode cX7_sorts 88 = .ok (.istore_n 2, 1) := by decide +kernel
theorem dX7_sorts_89 : decode cX7_sorts 89 = .ok (.iinc 3 1, 3) := by decide +kernel
theorem dX7_sorts_92 : decode cX7_sorts 92 = .ok (.goto (-88), 3) := by decide +kernel
theorem dX7_sorts_95 : decode cX7_sorts 95 = .ok (.iload_n 2, 1) := by decide +kernel
theorem dX7_sorts_96 : decode cX7_sorts 96 = .ok (.ireturn, 1) := by decide +kernel
theorem dX7_withIt_0 : decode cX7_withIt 0 = .ok (.iconst 0, 1) := by decide +kernel
theorem dX7_withIt_1 : decode cX7_withIt 1 = .ok (.istore_n 2, 1) := by decide +kernel
theorem dX7_withIt_2 : decode cX7_withIt 2 = .ok (.iconst 0, 1) := by decide +kernel
theorem dX7_withIt_3 : decode cX7_withIt 3 = .ok (.istore_n 3, 1) := by decide +kernel
theorem dX7_withIt_4 : decode cX7_withIt 4 = .ok (.iload_n 3, 1) := by decide +kernel
theorem dX7_withIt_5 : decode cX7_withIt 5 = .ok (.iconst 5, 1) := by decide +kernel
theorem dX7_withIt_6 : decode cX7_withIt 6 = .ok (.if_icmp .ge 33, 3) := by decide +kernel
theorem dX7_withIt_9 : decode cX7_withIt 9 = .ok (.iload_n 2, 1) := by decide +kernel
theorem dX7_withIt_10 : decode cX7_withIt 10 = .ok (.iload_n 0, 1) := by decide +kernel
theorem dX7_withIt_11 : decode cX7_withIt 11 = .ok (.iload_n 3, 1) := by decide +kernel
theorem dX7_withIt_12 : decode cX7_withIt 12 = .ok (.invokestatic 144, 3) := by decide +kernel
theorem dX7_withIt_15 : decode cX7_withIt 15 = .ok (.ifCond .eq 15, 3) := by decide +kernel
theorem dX7_withIt_18 : decode cX7_withIt 18 = .ok (.iload_n 3, 1) := by decide +kernel
theorem dX7_withIt_19 : decode cX7_withIt 19 = .ok (.iload_n 1, 1) := by decide +kernel
theorem dX7_withIt_20 : decode cX7_withIt 20 = .ok (.invokestatic 147, 3) := by decide +kernel
theorem dX7_withIt_23 : decode cX7_withIt 23 = .ok (.ifCond .eq 7, 3) := by decide +kernel
theorem dX7_withIt_26 : decode cX7_withIt 26 = .ok (.iconst 1, 1) := by decide +kernel
theorem dX7_withIt_27 : decode cX7_withIt 27 = .ok (.goto 4, 3) := by decide +kernel
theorem dX7_withIt_30 : decode cX7_withIt 30 = .ok (.iconst 0, 1) := by decide +kernel
theorem dX7_withIt_31 : decode cX7_withIt 31 = .ok (.iadd, 1) := by decide +kernel
theorem dX7_withIt_32 : decode cX7_withIt 32 = .ok (.istore_n 2, 1) := by decide +kernel
theorem dX7_withIt_33 : decode cX7_withIt 33 = .ok (.iinc 3 1, 3) := by decide +kernel
theorem dX7_withIt_36 : decode cX7_withIt 36 = .ok (.goto (-32), 3) := by decide +kernel
theorem dX7_withIt_39 : decode cX7_withIt 39 = .ok (.iload_n 2, 1) := by decide +kernel
theorem dX7_withIt_40 : decode cX7_withIt 40 = .ok (.ireturn, 1) := by decide +kernel
theorem dX7_ask_0 : decode cX7_ask 0 = .ok (.aload_n 0, 1) := by decide +kernel
theorem dX7_ask_1 : decode cX7_ask 1 = .ok (.iload_n 1, 1) := by decide +kernel
theorem dX7_ask_2 : decode cX7_ask 2 = .ok (.invokevirtual 150, 3) := by decide +kernel
theorem dX7_ask_5 : decode cX7_ask 5 = .ok (.istore_n 2, 1) := by decide +kernel
theorem dX7_ask_6 : decode cX7_ask 6 = .ok (.iconst (-1), 1) := by decide +kernel
theorem dX7_ask_7 : decode cX7_ask 7 = .ok (.istore_n 3, 1) := by decide +kernel
theorem dX7_ask_8 : decode cX7_ask 8 = .ok (.ldc 153, 2) := by decide +kernel
theorem dX7_ask_10 : decode cX7_ask 10 = .ok (.istore 4, 2) := by decide +kernel
theorem dX7_ask_12 : decode cX7_ask 12 = .ok (.iconst 0, 1) := by decide +kernel
theorem dX7_ask_13 : decode cX7_ask 13 = .ok (.istore 5, 2) := by decide +kernel
theorem dX7_ask_15 : decode cX7_ask 15 = .ok (.iload 5, 2) := by decide +kernel
theorem dX7_ask_17 : decode cX7_ask 17 = .ok (.iconst 4, 1) := by decide +kernel
theorem dX7_ask_18 : decode cX7_ask 18 = .ok (.if_icmp .ge 76, 3) := by decide +kernel
theorem dX7_ask_21 : decode cX7_ask 21 = .ok (.iload_n 2, 1) := by decide +kernel
theorem dX7_ask_22 : decode cX7_ask 22 = .ok (.ifCond .eq 72, 3) := by decide +kernel
theorem dX7_ask_25 : decode cX7_ask 25 = .ok (.iload_n 2, 1) := by decide +kernel
theorem dX7_ask_26 : decode cX7_ask 26 = .ok (.iload 5, 2) := by decide +kernel
theorem dX7_ask_28 : decode cX7_ask 28 = .ok (.invokestatic 154, 3) := by decide +kernel
theorem dX7_ask_31 : decode cX7_ask 31 = .ok (.istore 6, 2) := by decide +kernel
theorem dX7_ask_33 : decode cX7_ask 33 = .ok (.iload_n 2, 1) := by decide +kernel
theorem dX7_ask_34 : decode cX7_ask 34 = .ok (.invokestatic 157, 3) := by decide +kernel
theorem dX7_ask_37 : decode cX7_ask 37 = .ok (.iload 6, 2) := by decide +kernel
theorem dX7_ask_39 : decode cX7_ask 39 = .ok (.isub, 1) := by decide +kernel
theorem dX7_ask_40 : decode cX7_ask 40 = .ok (.istore 7, 2) := by decide +kernel
theorem dX7_ask_42 : decode cX7_ask 42 = .ok (.iload 6, 2) := by decide +kernel
theorem dX7_ask_44 : decode cX7_ask 44 = .ok (.iload 7, 2) := by decide +kernel
theorem dX7_ask_46 : decode cX7_ask 46 = .ok (.if_icmp .le 8, 3) := by decide +kernel
theorem dX7_ask_49 : decode cX7_ask 49 = .ok (.iload 6, 2) := by decide +kernel
theorem dX7_ask_51 : decode cX7_ask 51 = .ok (.goto 5, 3) := by decide +kernel
theorem dX7_ask_54 : decode cX7_ask 54 = .ok (.iload 7, 2) := by decide +kernel
theorem dX7_ask_56 : decode cX7_ask 56 = .ok (.istore 8, 2) := by decide +kernel
theorem dX7_ask_58 : decode cX7_ask 58 = .ok (.iload 8, 2) := by decide +kernel
theorem dX7_ask_60 : decode cX7_ask 60 = .ok (.iload 4, 2) := by decide +kernel
theorem dX7_ask_62 : decode cX7_ask 62 = .ok (.if_icmp .ge 8, 3) := by decide +kernel
theorem dX7_ask_65 : decode cX7_ask 65 = .ok (.iload 5, 2) := by decide +kernel
theorem dX7_ask_67 : decode cX7_ask 67 = .ok (.goto 4, 3) := by decide +kernel
theorem dX7_ask_70 : decode cX7_ask 70 = .ok (.iload_n 3, 1) := by decide +kernel
theorem dX7_ask_71 : decode cX7_ask 71 = .ok (.istore_n 3, 1) := by decide +kernel
theorem dX7_ask_72 : decode cX7_ask 72 = .ok (.iload 8, 2) := by decide +kernel
theorem dX7_ask_74 : decode cX7_ask 74 = .ok (.iload 4, 2) := by decide +kernel
theorem dX7_ask_76 : decode cX7_ask 76 = .ok (.if_icmp .ge 8, 3) := by decide +kernel
theorem dX7_ask_79 : decode cX7_ask 79 = .ok (.iload 8, 2) := by decide +kernel
theorem dX7_ask_81 : decode cX7_ask 81 = .ok (.goto 5, 3) := by decide +kernel
theorem dX7_ask_84 : decode cX7_ask 84 = .ok (.iload 4, 2) := by decide +kernel
theorem dX7_ask_86 : decode cX7_ask 86 = .ok (.istore 4, 2) := by decide +kernel
theorem dX7_ask_88 : decode cX7_ask 88 = .ok (.iinc 5 1, 3) := by decide +kernel
theorem dX7_ask_91 : decode cX7_ask 91 = .ok (.goto (-76), 3) := by decide +kernel
theorem dX7_ask_94 : decode cX7_ask 94 = .ok (.iload_n 3, 1) := by decide +kernel
theorem dX7_ask_95 : decode cX7_ask 95 = .ok (.ireturn, 1) := by decide +kernel
theorem dX7_isState_0 : decode cX7_isState 0 = .ok (.iload_n 1, 1) := by decide +kernel
theorem dX7_isState_1 : decode cX7_isState 1 = .ok (.iconst 0, 1) := by decide +kernel
theorem dX7_isState_2 : decode cX7_isState 2 = .ok (.aload_n 0, 1) := by decide +kernel
theorem dX7_isState_3 : decode cX7_isState 3 = .ok (.getfield 96, 3) := by decide +kernel
theorem dX7_isState_6 : decode cX7_isState 6 = .ok (.iconst 1, 1) := by decide +kernel
theorem dX7_isState_7 : decode cX7_isState 7 = .ok (.isub, 1) := by decide +kernel
theorem dX7_isState_8 : decode cX7_isState 8 = .ok (.invokestatic 69, 3) := by decide +kernel
theorem dX7_isState_11 : decode cX7_isState 11 = .ok (.ireturn, 1) := by decide +kernel
theorem dX7_stateNow_0 : decode cX7_stateNow 0 = .ok (.iload_n 2, 1) := by decide +kernel
theorem dX7_stateNow_1 : decode cX7_stateNow 1 = .ok (.tableswitch 106 0 6 #[43, 50, 59, 70, 76, 94, 100], 43) := by decide +kernel
theorem dX7_stateNow_44 : decode cX7_stateNow 44 = .ok (.aload_n 0, 1) := by decide +kernel
theorem dX7_stateNow_45 : decode cX7_stateNow 45 = .ok (.getfield 7, 3) := by decide +kernel
theorem dX7_stateNow_48 : decode cX7_stateNow 48 = .ok (.iload_n 1, 1) := by decide +kernel
theorem dX7_stateNow_49 : decode cX7_stateNow 49 = .ok (.iaload, 1) := by decide +kernel
theorem dX7_stateNow_50 : decode cX7_stateNow 50 = .ok (.ireturn, 1) := by decide +kernel
theorem dX7_stateNow_51 : decode cX7_stateNow 51 = .ok (.aload_n 0, 1) := by decide +kernel
theorem dX7_stateNow_52 : decode cX7_stateNow 52 = .ok (.getfield 13, 3) := by decide +kernel
theorem dX7_stateNow_55 : decode cX7_stateNow 55 = .ok (.iconst 2, 1) := by decide +kernel
theorem dX7_stateNow_56 : decode cX7_stateNow 56 = .ok (.iload_n 1, 1) := by decide +kernel
theorem dX7_stateNow_57 : decode cX7_stateNow 57 = .ok (.imul, 1) := by decide +kernel
theorem dX7_stateNow_58 : decode cX7_stateNow 58 = .ok (.iaload, 1) := by decide +kernel
theorem dX7_stateNow_59 : decode cX7_stateNow 59 = .ok (.ireturn, 1) := by decide +kernel
theorem dX7_stateNow_60 : decode cX7_stateNow 60 = .ok (.aload_n 0, 1) := by decide +kernel
theorem dX7_stateNow_61 : decode cX7_stateNow 61 = .ok (.getfield 13, 3) := by decide +kernel
theorem dX7_stateNow_64 : decode cX7_stateNow 64 = .ok (.iconst 2, 1) := by decide +kernel
theorem dX7_stateNow_65 : decode cX7_stateNow 65 = .ok (.iload_n 1, 1) := by decide +kernel
theorem dX7_stateNow_66 : decode cX7_stateNow 66 = .ok (.imul, 1) := by decide +kernel
theorem dX7_stateNow_67 : decode cX7_stateNow 67 = .ok (.iconst 1, 1) := by decide +kernel
theorem dX7_stateNow_68 : decode cX7_stateNow 68 = .ok (.iadd, 1) := by decide +kernel
theorem dX7_stateNow_69 : decode cX7_stateNow 69 = .ok (.iaload, 1) := by decide +kernel
theorem dX7_stateNow_70 : decode cX7_stateNow 70 = .ok (.ireturn, 1) := by decide +kernel
theorem dX7_stateNow_71 : decode cX7_stateNow 71 = .ok (.aload_n 0, 1) := by decide +kernel
theorem dX7_stateNow_72 : decode cX7_stateNow 72 = .ok (.iload_n 1, 1) := by decide +kernel
theorem dX7_stateNow_73 : decode cX7_stateNow 73 = .ok (.invokevirtual 160, 3) := by decide +kernel
theorem dX7_stateNow_76 : decode cX7_stateNow 76 = .ok (.ireturn, 1) := by decide +kernel
theorem dX7_stateNow_77 : decode cX7_stateNow 77 = .ok (.aload_n 0, 1) := by decide +kernel
theorem dX7_stateNow_78 : decode cX7_stateNow 78 = .ok (.iload_n 1, 1) := by decide +kernel
theorem dX7_stateNow_79 : decode cX7_stateNow 79 = .ok (.invokevirtual 160, 3) := by decide +kernel
theorem dX7_stateNow_82 : decode cX7_stateNow 82 = .ok (.iload_n 1, 1) := by decide +kernel
theorem dX7_stateNow_83 : decode cX7_stateNow 83 = .ok (.invokestatic 144, 3) := by decide +kernel
theorem dX7_stateNow_86 : decode cX7_stateNow 86 = .ok (.ifCond .eq 7, 3) := by decide +kernel
theorem dX7_stateNow_89 : decode cX7_stateNow 89 = .ok (.iconst 1, 1) := by decide +kernel
theorem dX7_stateNow_90 : decode cX7_stateNow 90 = .ok (.goto 4, 3) := by decide +kernel
theorem dX7_stateNow_93 : decode cX7_stateNow 93 = .ok (.iconst 0, 1) := by decide +kernel
theorem dX7_stateNow_94 : decode cX7_stateNow 94 = .ok (.ireturn, 1) := by decide +kernel
theorem dX7_stateNow_95 : decode cX7_stateNow 95 = .ok (.aload_n 0, 1) := by decide +kernel
theorem dX7_stateNow_96 : decode cX7_stateNow 96 = .ok (.iload_n 1, 1) := by decide +kernel
theorem dX7_stateNow_97 : decode cX7_stateNow 97 = .ok (.invokevirtual 163, 3) := by decide +kernel
theorem dX7_stateNow_100 : decode cX7_stateNow 100 = .ok (.ireturn, 1) := by decide +kernel
theorem dX7_stateNow_101 : decode cX7_stateNow 101 = .ok (.aload_n 0, 1) := by decide +kernel
theorem dX7_stateNow_102 : decode cX7_stateNow 102 = .ok (.iload_n 1, 1) := by decide +kernel
theorem dX7_stateNow_103 : decode cX7_stateNow 103 = .ok (.invokevirtual 150, 3) := by decide +kernel
theorem dX7_stateNow_106 : decode cX7_stateNow 106 = .ok (.ireturn, 1) := by decide +kernel
theorem dX7_stateNow_107 : decode cX7_stateNow 107 = .ok (.aload_n 0, 1) := by decide +kernel
theorem dX7_stateNow_108 : decode cX7_stateNow 108 = .ok (.iload_n 1, 1) := by decide +kernel
theorem dX7_stateNow_109 : decode cX7_stateNow 109 = .ok (.invokevirtual 166, 3) := by decide +kernel
theorem dX7_stateNow_112 : decode cX7_stateNow 112 = .ok (.ireturn, 1) := by decide +kernel
theorem dX7_state_0 : decode cX7_state 0 = .ok (.aload_n 0, 1) := by decide +kernel
theorem dX7_state_1 : decode cX7_state 1 = .ok (.iload_n 1, 1) := by decide +kernel
theorem dX7_state_2 : decode cX7_state 2 = .ok (.invokevirtual 169, 3) := by decide +kernel
theorem dX7_state_5 : decode cX7_state 5 = .ok (.ifCond .ne 8, 3) := by decide +kernel
theorem dX7_state_8 : decode cX7_state 8 = .ok (.bipush (-101), 2) := by decide +kernel
theorem dX7_state_10 : decode cX7_state 10 = .ok (.goto 24, 3) := by decide +kernel
theorem dX7_state_13 : decode cX7_state 13 = .ok (.iload_n 2, 1) := by decide +kernel
theorem dX7_state_14 : decode cX7_state 14 = .ok (.iconst 0, 1) := by decide +kernel
theorem dX7_state_15 : decode cX7_state 15 = .ok (.bipush 7, 2) := by decide +kernel
theorem dX7_state_17 : decode cX7_state 17 = .ok (.invokestatic 69, 3) := by decide +kernel
theorem dX7_state_20 : decode cX7_state 20 = .ok (.ifCond .eq 12, 3) := by decide +kernel
theorem dX7_state_23 : decode cX7_state 23 = .ok (.aload_n 0, 1) := by decide +kernel
theorem dX7_state_24 : decode cX7_state 24 = .ok (.iload_n 1, 1) := by decide +kernel
theorem dX7_state_25 : decode cX7_state 25 = .ok (.iload_n 2, 1) := by decide +kernel
theorem dX7_state_26 : decode cX7_state 26 = .ok (.invokevirtual 172, 3) := by decide +kernel
theorem dX7_state_29 : decode cX7_state 29 = .ok (.goto 5, 3) := by decide +kernel
theorem dX7_state_32 : decode cX7_state 32 = .ok (.bipush (-102), 2) := by decide +kernel
theorem dX7_state_34 : decode cX7_state 34 = .ok (.ireturn, 1) := by decide +kernel
theorem dX7_isSuch_0 : decode cX7_isSuch 0 = .ok (.iload_n 1, 1) := by decide +kernel
theorem dX7_isSuch_1 : decode cX7_isSuch 1 = .ok (.ifCond .eq 18, 3) := by decide +kernel
theorem dX7_isSuch_4 : decode cX7_isSuch 4 = .ok (.iload_n 1, 1) := by decide +kernel
theorem dX7_isSuch_5 : decode cX7_isSuch 5 = .ok (.iload_n 0, 1) := by decide +kernel
theorem dX7_isSuch_6 : decode cX7_isSuch 6 = .ok (.if_icmp .eq 13, 3) := by decide +kernel
theorem dX7_isSuch_9 : decode cX7_isSuch 9 = .ok (.iload_n 1, 1) := by decide +kernel
theorem dX7_isSuch_10 : decode cX7_isSuch 10 = .ok (.iconst 1, 1) := by decide +kernel
theorem dX7_isSuch_11 : decode cX7_isSuch 11 = .ok (.if_icmp .ne 12, 3) := by decide +kernel
theorem dX7_isSuch_14 : decode cX7_isSuch 14 = .ok (.iload_n 0, 1) := by decide +kernel
theorem dX7_isSuch_15 : decode cX7_isSuch 15 = .ok (.iconst 2, 1) := by decide +kernel
theorem dX7_isSuch_16 : decode cX7_isSuch 16 = .ok (.if_icmp .ne 7, 3) := by decide +kernel
theorem dX7_isSuch_19 : decode cX7_isSuch 19 = .ok (.iconst 1, 1) := by decide +kernel
theorem dX7_isSuch_20 : decode cX7_isSuch 20 = .ok (.goto 4, 3) := by decide +kernel
theorem dX7_isSuch_23 : decode cX7_isSuch 23 = .ok (.iconst 0, 1) := by decide +kernel
theorem dX7_isSuch_24 : decode cX7_isSuch 24 = .ok (.ireturn, 1) := by decide +kernel
theorem dX7_as_0 : decode cX7_as 0 = .ok (.aload_n 0, 1) := by decide +kernel
theorem dX7_as_1 : decode cX7_as 1 = .ok (.iload_n 1, 1) := by decide +kernel
theorem dX7_as_2 : decode cX7_as 2 = .ok (.invokevirtual 169, 3) := by decide +kernel
theorem dX7_as_5 : decode cX7_as 5 = .ok (.ifCond .ne 6, 3) := by decide +kernel
theorem dX7_as_8 : decode cX7_as 8 = .ok (.bipush (-101), 2) := by decide +kernel
theorem dX7_as_10 : decode cX7_as 10 = .ok (.ireturn, 1) := by decide +kernel
theorem dX7_as_11 : decode cX7_as 11 = .ok (.iload_n 2, 1) := by decide +kernel
theorem dX7_as_12 : decode cX7_as 12 = .ok (.iconst 0, 1) := by decide +kernel
theorem dX7_as_13 : decode cX7_as 13 = .ok (.iconst 4, 1) := by decide +kernel
theorem dX7_as_14 : decode cX7_as 14 = .ok (.invokestatic 69, 3) := by decide +kernel
theorem dX7_as_17 : decode cX7_as 17 = .ok (.ifCond .ne 8, 3) := by decide +kernel
theorem dX7_as_20 : decode cX7_as 20 = .ok (.bipush (-102), 2) := by decide +kernel
theorem dX7_as_22 : decode cX7_as 22 = .ok (.goto 21, 3) := by decide +kernel
theorem dX7_as_25 : decode cX7_as 25 = .ok (.aload_n 0, 1) := by decide +kernel
theorem dX7_as_26 : decode cX7_as 26 = .ok (.getfield 7, 3) := by decide +kernel
theorem dX7_as_29 : decode cX7_as 29 = .ok (.iload_n 1, 1) := by decide +kernel
theorem dX7_as_30 : decode cX7_as 30 = .ok (.iaload, 1) := by decide +kernel
theorem dX7_as_31 : decode cX7_as 31 = .ok (.iload_n 2, 1) := by decide +kernel
theorem dX7_as_32 : decode cX7_as 32 = .ok (.invokestatic 175, 3) := by decide +kernel
theorem dX7_as_35 : decode cX7_as 35 = .ok (.ifCond .eq 7, 3) := by decide +kernel
theorem dX7_as_38 : decode cX7_as 38 = .ok (.iload_n 1, 1) := by decide +kernel
theorem dX7_as_39 : decode cX7_as 39 = .ok (.goto 4, 3) := by decide +kernel
theorem dX7_as_42 : decode cX7_as 42 = .ok (.iconst (-1), 1) := by decide +kernel
theorem dX7_as_43 : decode cX7_as 43 = .ok (.ireturn, 1) := by decide +kernel
theorem dX7_sign_0 : decode cX7_sign 0 = .ok (.iload_n 1, 1) := by decide +kernel
theorem dX7_sign_1 : decode cX7_sign 1 = .ok (.iconst 0, 1) := by decide +kernel
theorem dX7_sign_2 : decode cX7_sign 2 = .ok (.iconst 2, 1) := by decide +kernel
theorem dX7_sign_3 : decode cX7_sign 3 = .ok (.invokestatic 69, 3) := by decide +kernel
theorem dX7_sign_6 : decode cX7_sign 6 = .ok (.ifCond .eq 19, 3) := by decide +kernel
theorem dX7_sign_9 : decode cX7_sign 9 = .ok (.iload_n 2, 1) := by decide +kernel
theorem dX7_sign_10 : decode cX7_sign 10 = .ok (.iconst 0, 1) := by decide +kernel
theorem dX7_sign_11 : decode cX7_sign 11 = .ok (.aload_n 0, 1) := by decide +kernel
theorem dX7_sign_12 : decode cX7_sign 12 = .ok (.getfield 16, 3) := by decide +kernel
theorem dX7_sign_15 : decode cX7_sign 15 = .ok (.iload_n 1, 1) := by decide +kernel
theorem dX7_sign_16 : decode cX7_sign 16 = .ok (.iaload, 1) := by decide +kernel
theorem dX7_sign_17 : decode cX7_sign 17 = .ok (.iconst 1, 1) := by decide +kernel
theorem dX7_sign_18 : decode cX7_sign 18 = .ok (.isub, 1) := by decide +kernel
theorem dX7_sign_19 : decode cX7_sign 19 = .ok (.invokestatic 69, 3) := by decide +kernel
theorem dX7_sign_22 : decode cX7_sign 22 = .ok (.ifCond .ne 6, 3) := by decide +kernel
theorem dX7_sign_25 : decode cX7_sign 25 = .ok (.bipush (-101), 2) := by decide +kernel
theorem dX7_sign_27 : decode cX7_sign 27 = .ok (.ireturn, 1) := by decide +kernel
theorem dX7_sign_28 : decode cX7_sign 28 = .ok (.aload_n 0, 1) := by decide +kernel
theorem dX7_sign_29 : decode cX7_sign 29 = .ok (.getfield 19, 3) := by decide +kernel
theorem dX7_sign_32 : decode cX7_sign 32 = .ok (.bipush 16, 2) := by decide +kernel
theorem dX7_sign_34 : decode cX7_sign 34 = .ok (.iload_n 1, 1) := by decide +kernel
theorem dX7_sign_35 : decode cX7_sign 35 = .ok (.imul, 1) := by decide +kernel
theorem dX7_sign_36 : decode cX7_sign 36 = .ok (.iload_n 2, 1) := by decide +kernel
theorem dX7_sign_37 : decode cX7_sign 37 = .ok (.iadd, 1) := by decide +kernel
theorem dX7_sign_38 : decode cX7_sign 38 = .ok (.iaload, 1) := by decide +kernel
theorem dX7_sign_39 : decode cX7_sign 39 = .ok (.invokestatic 178, 3) := by decide +kernel
theorem dX7_sign_42 : decode cX7_sign 42 = .ok (.ireturn, 1) := by decide +kernel
theorem dX7_codeOf_0 : decode cX7_codeOf 0 = .ok (.iload_n 0, 1) := by decide +kernel
theorem dX7_codeOf_1 : decode cX7_codeOf 1 = .ok (.iconst 2, 1) := by decide +kernel
theorem dX7_codeOf_2 : decode cX7_codeOf 2 = .ok (.irem, 1) := by decide +kernel
theorem dX7_codeOf_3 : decode cX7_codeOf 3 = .ok (.ifCond .ne 12, 3) := by decide +kernel
theorem dX7_codeOf_6 : decode cX7_codeOf 6 = .ok (.bipush 97, 2) := by decide +kernel
theorem dX7_codeOf_8 : decode cX7_codeOf 8 = .ok (.iload_n 0, 1) := by decide +kernel
theorem dX7_codeOf_9 : decode cX7_codeOf 9 = .ok (.iconst 2, 1) := by decide +kernel
theorem dX7_codeOf_10 : decode cX7_codeOf 10 = .ok (.idiv, 1) := by decide +kernel
theorem dX7_codeOf_11 : decode cX7_codeOf 11 = .ok (.iadd, 1) := by decide +kernel
theorem dX7_codeOf_12 : decode cX7_codeOf 12 = .ok (.goto 9, 3) := by decide +kernel
theorem dX7_codeOf_15 : decode cX7_codeOf 15 = .ok (.bipush 65, 2) := by decide +kernel
theorem dX7_codeOf_17 : decode cX7_codeOf 17 = .ok (.iload_n 0, 1) := by decide +kernel
theorem dX7_codeOf_18 : decode cX7_codeOf 18 = .ok (.iconst 2, 1) := by decide +kernel
theorem dX7_codeOf_19 : decode cX7_codeOf 19 = .ok (.idiv, 1) := by decide +kernel
theorem dX7_codeOf_20 : decode cX7_codeOf 20 = .ok (.iadd, 1) := by decide +kernel
theorem dX7_codeOf_21 : decode cX7_codeOf 21 = .ok (.ireturn, 1) := by decide +kernel
theorem dX7_isRow_0 : decode cX7_isRow 0 = .ok (.iload_n 1, 1) := by decide +kernel
theorem dX7_isRow_1 : decode cX7_isRow 1 = .ok (.iconst 0, 1) := by decide +kernel
theorem dX7_isRow_2 : decode cX7_isRow 2 = .ok (.iload_n 2, 1) := by decide +kernel
theorem dX7_isRow_3 : decode cX7_isRow 3 = .ok (.invokestatic 69, 3) := by decide +kernel
theorem dX7_isRow_6 : decode cX7_isRow 6 = .ok (.ifCond .eq 20, 3) := by decide +kernel
theorem dX7_isRow_9 : decode cX7_isRow 9 = .ok (.iload_n 0, 1) := by decide +kernel
theorem dX7_isRow_10 : decode cX7_isRow 10 = .ok (.iconst 0, 1) := by decide +kernel
theorem dX7_isRow_11 : decode cX7_isRow 11 = .ok (.iconst 1, 1) := by decide +kernel
theorem dX7_isRow_12 : decode cX7_isRow 12 = .ok (.iload_n 1, 1) := by decide +kernel
theorem dX7_isRow_13 : decode cX7_isRow 13 = .ok (.ishl, 1) := by decide +kernel
theorem dX7_isRow_14 : decode cX7_isRow 14 = .ok (.iconst 1, 1) := by decide +kernel
theorem dX7_isRow_15 : decode cX7_isRow 15 = .ok (.isub, 1) := by decide +kernel
theorem dX7_isRow_16 : decode cX7_isRow 16 = .ok (.invokestatic 69, 3) := by decide +kernel
theorem dX7_isRow_19 : decode cX7_isRow 19 = .ok (.ifCond .eq 7, 3) := by decide +kernel
theorem dX7_isRow_22 : decode cX7_isRow 22 = .ok (.iconst 1, 1) := by decide +kernel
theorem dX7_isRow_23 : decode cX7_isRow 23 = .ok (.goto 4, 3) := by decide +kernel
theorem dX7_isRow_26 : decode cX7_isRow 26 = .ok (.iconst 0, 1) := by decide +kernel
theorem dX7_isRow_27 : decode cX7_isRow 27 = .ok (.ireturn, 1) := by decide +kernel
theorem dX7_act_0 : decode cX7_act 0 = .ok (.aload_n 0, 1) := by decide +kernel
theorem dX7_act_1 : decode cX7_act 1 = .ok (.iload_n 1, 1) := by decide +kernel
theorem dX7_act_2 : decode cX7_act 2 = .ok (.invokevirtual 112, 3) := by decide +kernel
theorem dX7_act_5 : decode cX7_act 5 = .ok (.ifCond .ne 6, 3) := by decide +kernel
theorem dX7_act_8 : decode cX7_act 8 = .ok (.bipush (-101), 2) := by decide +kernel
theorem dX7_act_10 : decode cX7_act 10 = .ok (.ireturn, 1) := by decide +kernel
theorem dX7_act_11 : decode cX7_act 11 = .ok (.iload_n 2, 1) := by decide +kernel
theorem dX7_act_12 : decode cX7_act 12 = .ok (.iload_n 3, 1) := by decide +kernel
theorem dX7_act_13 : decode cX7_act 13 = .ok (.bipush 12, 2) := by decide +kernel
theorem dX7_act_15 : decode cX7_act 15 = .ok (.invokestatic 181, 3) := by decide +kernel
theorem dX7_act_18 : decode cX7_act 18 = .ok (.ifCond .eq 13, 3) := by decide +kernel
theorem dX7_act_21 : decode cX7_act 21 = .ok (.aload_n 0, 1) := by decide +kernel
theorem dX7_act_22 : decode cX7_act 22 = .ok (.iload_n 1, 1) := by decide +kernel
theorem dX7_act_23 : decode cX7_act 23 = .ok (.iload_n 2, 1) := by decide +kernel
theorem dX7_act_24 : decode cX7_act 24 = .ok (.iload_n 3, 1) := by decide +kernel
theorem dX7_act_25 : decode cX7_act 25 = .ok (.invokevirtual 184, 3) := by decide +kernel
theorem dX7_act_28 : decode cX7_act 28 = .ok (.goto 5, 3) := by decide +kernel
theorem dX7_act_31 : decode cX7_act 31 = .ok (.bipush (-102), 2) := by decide +kernel
theorem dX7_act_33 : decode cX7_act 33 = .ok (.ireturn, 1) := by decide +kernel
theorem dX7_flipsOf_0 : decode cX7_flipsOf 0 = .ok (.iconst 0, 1) := by decide +kernel
theorem dX7_flipsOf_1 : decode cX7_flipsOf 1 = .ok (.istore_n 3, 1) := by decide +kernel
theorem dX7_flipsOf_2 : decode cX7_flipsOf 2 = .ok (.iconst 0, 1) := by decide +kernel
theorem dX7_flipsOf_3 : decode cX7_flipsOf 3 = .ok (.istore 4, 2) := by decide +kernel
theorem dX7_flipsOf_5 : decode cX7_flipsOf 5 = .ok (.iload 4, 2) := by decide +kernel
theorem dX7_flipsOf_7 : decode cX7_flipsOf 7 = .ok (.iconst 1, 1) := by decide +kernel
theorem dX7_flipsOf_8 : decode cX7_flipsOf 8 = .ok (.iload_n 2, 1) := by decide +kernel
theorem dX7_flipsOf_9 : decode cX7_flipsOf 9 = .ok (.ishl, 1) := by decide +kernel
theorem dX7_flipsOf_10 : decode cX7_flipsOf 10 = .ok (.if_icmp .ge 29, 3) := by decide +kernel
theorem dX7_flipsOf_13 : decode cX7_flipsOf 13 = .ok (.iload_n 3, 1) := by decide +kernel
theorem dX7_flipsOf_14 : decode cX7_flipsOf 14 = .ok (.aload_n 0, 1) := by decide +kernel
theorem dX7_flipsOf_15 : decode cX7_flipsOf 15 = .ok (.iload_n 1, 1) := by decide +kernel
theorem dX7_flipsOf_16 : decode cX7_flipsOf 16 = .ok (.iconst 2, 1) := by decide +kernel
theorem dX7_flipsOf_17 : decode cX7_flipsOf 17 = .ok (.iload 4, 2) := by decide +kernel
theorem dX7_flipsOf_19 : decode cX7_flipsOf 19 = .ok (.imul, 1) := by decide +kernel
theorem dX7_flipsOf_20 : decode cX7_flipsOf 20 = .ok (.iload_n 2, 1) := by decide +kernel
theorem dX7_flipsOf_21 : decode cX7_flipsOf 21 = .ok (.iconst 1, 1) := by decide +kernel
theorem dX7_flipsOf_22 : decode cX7_flipsOf 22 = .ok (.iadd, 1) := by decide +kernel
theorem dX7_flipsOf_23 : decode cX7_flipsOf 23 = .ok (.invokevirtual 184, 3) := by decide +kernel
theorem dX7_flipsOf_26 : decode cX7_flipsOf 26 = .ok (.iconst 1, 1) := by decide +kernel
theorem dX7_flipsOf_27 : decode cX7_flipsOf 27 = .ok (.iand, 1) := by decide +kernel
theorem dX7_flipsOf_28 : decode cX7_flipsOf 28 = .ok (.iload 4, 2) := by decide +kernel
theorem dX7_flipsOf_30 : decode cX7_flipsOf 30 = .ok (.ishl, 1) := by decide +kernel
theorem dX7_flipsOf_31 : decode cX7_flipsOf 31 = .ok (.ior, 1) := by decide +kernel
theorem dX7_flipsOf_32 : decode cX7_flipsOf 32 = .ok (.istore_n 3, 1) := by decide +kernel
theorem dX7_flipsOf_33 : decode cX7_flipsOf 33 = .ok (.iinc 4 1, 3) := by decide +kernel
theorem dX7_flipsOf_36 : decode cX7_flipsOf 36 = .ok (.goto (-31), 3) := by decide +kernel
theorem dX7_flipsOf_39 : decode cX7_flipsOf 39 = .ok (.iload_n 3, 1) := by decide +kernel
theorem dX7_flipsOf_40 : decode cX7_flipsOf 40 = .ok (.ireturn, 1) := by decide +kernel
theorem dX7_flips_0 : decode cX7_flips 0 = .ok (.aload_n 0, 1) := by decide +kernel
theorem dX7_flips_1 : decode cX7_flips 1 = .ok (.iload_n 1, 1) := by decide +kernel
theorem dX7_flips_2 : decode cX7_flips 2 = .ok (.invokevirtual 112, 3) := by decide +kernel
theorem dX7_flips_5 : decode cX7_flips 5 = .ok (.ifCond .ne 6, 3) := by decide +kernel
theorem dX7_flips_8 : decode cX7_flips 8 = .ok (.bipush (-101), 2) := by decide +kernel
theorem dX7_flips_10 : decode cX7_flips 10 = .ok (.ireturn, 1) := by decide +kernel
theorem dX7_flips_11 : decode cX7_flips 11 = .ok (.iload_n 2, 1) := by decide +kernel
theorem dX7_flips_12 : decode cX7_flips 12 = .ok (.iconst 0, 1) := by decide +kernel
theorem dX7_flips_13 : decode cX7_flips 13 = .ok (.iconst 4, 1) := by decide +kernel
theorem dX7_flips_14 : decode cX7_flips 14 = .ok (.invokestatic 69, 3) := by decide +kernel
theorem dX7_flips_17 : decode cX7_flips 17 = .ok (.ifCond .eq 12, 3) := by decide +kernel
theorem dX7_flips_20 : decode cX7_flips 20 = .ok (.aload_n 0, 1) := by decide +kernel
theorem dX7_flips_21 : decode cX7_flips 21 = .ok (.iload_n 1, 1) := by decide +kernel
theorem dX7_flips_22 : decode cX7_flips 22 = .ok (.iload_n 2, 1) := by decide +kernel
theorem dX7_flips_23 : decode cX7_flips 23 = .ok (.invokevirtual 187, 3) := by decide +kernel
theorem dX7_flips_26 : decode cX7_flips 26 = .ok (.goto 5, 3) := by decide +kernel
theorem dX7_flips_29 : decode cX7_flips 29 = .ok (.bipush (-102), 2) := by decide +kernel
theorem dX7_flips_31 : decode cX7_flips 31 = .ok (.ireturn, 1) := by decide +kernel
theorem dX7_roundOf_0 : decode cX7_roundOf 0 = .ok (.aload_n 0, 1) := by decide +kernel
theorem dX7_roundOf_1 : decode cX7_roundOf 1 = .ok (.iload_n 1, 1) := by decide +kernel
theorem dX7_roundOf_2 : decode cX7_roundOf 2 = .ok (.iload_n 2, 1) := by decide +kernel
theorem dX7_roundOf_3 : decode cX7_roundOf 3 = .ok (.iload_n 3, 1) := by decide +kernel
theorem dX7_roundOf_4 : decode cX7_roundOf 4 = .ok (.invokevirtual 184, 3) := by decide +kernel
theorem dX7_roundOf_7 : decode cX7_roundOf 7 = .ok (.istore 4, 2) := by decide +kernel
theorem dX7_roundOf_9 : decode cX7_roundOf 9 = .ok (.iconst 1, 1) := by decide +kernel
theorem dX7_roundOf_10 : decode cX7_roundOf 10 = .ok (.istore 5, 2) := by decide +kernel
theorem dX7_roundOf_12 : decode cX7_roundOf 12 = .ok (.iload 4, 2) := by decide +kernel
theorem dX7_roundOf_14 : decode cX7_roundOf 14 = .ok (.iload_n 2, 1) := by decide +kernel
theorem dX7_roundOf_15 : decode cX7_roundOf 15 = .ok (.if_icmp .eq 27, 3) := by decide +kernel
theorem dX7_roundOf_18 : decode cX7_roundOf 18 = .ok (.iload 5, 2) := by decide +kernel
theorem dX7_roundOf_20 : decode cX7_roundOf 20 = .ok (.sipush 256, 3) := by decide +kernel
theorem dX7_roundOf_23 : decode cX7_roundOf 23 = .ok (.if_icmp .ge 19, 3) := by decide +kernel
theorem dX7_roundOf_26 : decode cX7_roundOf 26 = .ok (.aload_n 0, 1) := by decide +kernel
theorem dX7_roundOf_27 : decode cX7_roundOf 27 = .ok (.iload_n 1, 1) := by decide +kernel
theorem dX7_roundOf_28 : decode cX7_roundOf 28 = .ok (.iload 4, 2) := by decide +kernel
theorem dX7_roundOf_30 : decode cX7_roundOf 30 = .ok (.iload_n 3, 1) := by decide +kernel
theorem dX7_roundOf_31 : decode cX7_roundOf 31 = .ok (.invokevirtual 184, 3) := by decide +kernel
theorem dX7_roundOf_34 : decode cX7_roundOf 34 = .ok (.istore 4, 2) := by decide +kernel
theorem dX7_roundOf_36 : decode cX7_roundOf 36 = .ok (.iinc 5 1, 3) := by decide +kernel
theorem dX7_roundOf_39 : decode cX7_roundOf 39 = .ok (.goto (-27), 3) := by decide +kernel
theorem dX7_roundOf_42 : decode cX7_roundOf 42 = .ok (.iload 5, 2) := by decide +kernel
theorem dX7_roundOf_44 : decode cX7_roundOf 44 = .ok (.ireturn, 1) := by decide +kernel
theorem dX7_round_0 : decode cX7_round 0 = .ok (.aload_n 0, 1) := by decide +kernel
theorem dX7_round_1 : decode cX7_round 1 = .ok (.iload_n 1, 1) := by decide +kernel
theorem dX7_round_2 : decode cX7_round 2 = .ok (.invokevirtual 112, 3) := by decide +kernel
theorem dX7_round_5 : decode cX7_round 5 = .ok (.ifCond .ne 6, 3) := by decide +kernel
theorem dX7_round_8 : decode cX7_round 8 = .ok (.bipush (-101), 2) := by decide +kernel
theorem dX7_round_10 : decode cX7_round 10 = .ok (.ireturn, 1) := by decide +kernel
theorem dX7_round_11 : decode cX7_round 11 = .ok (.iload_n 2, 1) := by decide +kernel
theorem dX7_round_12 : decode cX7_round 12 = .ok (.iload_n 3, 1) := by decide +kernel
theorem dX7_round_13 : decode cX7_round 13 = .ok (.bipush 8, 2) := by decide +kernel
theorem dX7_round_15 : decode cX7_round 15 = .ok (.invokestatic 181, 3) := by decide +kernel
theorem dX7_round_18 : decode cX7_round 18 = .ok (.ifCond .eq 13, 3) := by decide +kernel
theorem dX7_round_21 : decode cX7_round 21 = .ok (.aload_n 0, 1) := by decide +kernel
theorem dX7_round_22 : decode cX7_round 22 = .ok (.iload_n 1, 1) := by decide +kernel
theorem dX7_round_23 : decode cX7_round 23 = .ok (.iload_n 2, 1) := by decide +kernel
theorem dX7_round_24 : decode cX7_round 24 = .ok (.iload_n 3, 1) := by decide +kernel
theorem dX7_round_25 : decode cX7_round 25 = .ok (.invokevirtual 190, 3) := by decide +kernel
theorem dX7_round_28 : decode cX7_round 28 = .ok (.goto 5, 3) := by decide +kernel
theorem dX7_round_31 : decode cX7_round 31 = .ok (.bipush (-102), 2) := by decide +kernel
theorem dX7_round_33 : decode cX7_round 33 = .ok (.ireturn, 1) := by decide +kernel
theorem dX7_isListed_0 : decode cX7_isListed 0 = .ok (.aload_n 0, 1) := by decide +kernel
theorem dX7_isListed_1 : decode cX7_isListed 1 = .ok (.getfield 38, 3) := by decide +kernel
theorem dX7_isListed_4 : decode cX7_isListed 4 = .ok (.iload_n 1, 1) := by decide +kernel
theorem dX7_isListed_5 : decode cX7_isListed 5 = .ok (.iaload, 1) := by decide +kernel
theorem dX7_isListed_6 : decode cX7_isListed 6 = .ok (.aload_n 0, 1) := by decide +kernel
theorem dX7_isListed_7 : decode cX7_isListed 7 = .ok (.getfield 105, 3) := by decide +kernel
theorem dX7_isListed_10 : decode cX7_isListed 10 = .ok (.if_icmp .ne 7, 3) := by decide +kernel
theorem dX7_isListed_13 : decode cX7_isListed 13 = .ok (.iconst 1, 1) := by decide +kernel
theorem dX7_isListed_14 : decode cX7_isListed 14 = .ok (.goto 4, 3) := by decide +kernel
theorem dX7_isListed_17 : decode cX7_isListed 17 = .ok (.iconst 0, 1) := by decide +kernel
theorem dX7_isListed_18 : decode cX7_isListed 18 = .ok (.istore_n 2, 1) := by decide +kernel
theorem dX7_isListed_19 : decode cX7_isListed 19 = .ok (.iconst 0, 1) := by decide +kernel
theorem dX7_isListed_20 : decode cX7_isListed 20 = .ok (.istore_n 3, 1) := by decide +kernel
theorem dX7_isListed_21 : decode cX7_isListed 21 = .ok (.iload_n 3, 1) := by decide +kernel
theorem dX7_isListed_22 : decode cX7_isListed 22 = .ok (.aload_n 0, 1) := by decide +kernel
theorem dX7_isListed_23 : decode cX7_isListed 23 = .ok (.getfield 105, 3) := by decide +kernel
theorem dX7_isListed_26 : decode cX7_isListed 26 = .ok (.if_icmp .ge 40, 3) := by decide +kernel
theorem dX7_isListed_29 : decode cX7_isListed 29 = .ok (.iload_n 2, 1) := by decide +kernel
theorem dX7_isListed_30 : decode cX7_isListed 30 = .ok (.ifCond .eq 36, 3) := by decide +kernel
theorem dX7_isListed_33 : decode cX7_isListed 33 = .ok (.aload_n 0, 1) := by decide +kernel
theorem dX7_isListed_34 : decode cX7_isListed 34 = .ok (.getfield 41, 3) := by decide +kernel
theorem dX7_isListed_37 : decode cX7_isListed 37 = .ok (.sipush 128, 3) := by decide +kernel
theorem dX7_isListed_40 : decode cX7_isListed 40 = .ok (.iload_n 1, 1) := by decide +kernel
theorem dX7_isListed_41 : decode cX7_isListed 41 = .ok (.imul, 1) := by decide +kernel
theorem dX7_isListed_42 : decode cX7_isListed 42 = .ok (.iload_n 3, 1) := by decide +kernel
theorem dX7_isListed_43 : decode cX7_isListed 43 = .ok (.iadd, 1) := by decide +kernel
theorem dX7_isListed_44 : decode cX7_isListed 44 = .ok (.baload, 1) := by decide +kernel
theorem dX7_isListed_45 : decode cX7_isListed 45 = .ok (.aload_n 0, 1) := by decide +kernel
theorem dX7_isListed_46 : decode cX7_isListed 46 = .ok (.getfield 35, 3) := by decide +kernel
theorem dX7_isListed_49 : decode cX7_isListed 49 = .ok (.iload_n 3, 1) := by decide +kernel
theorem dX7_isListed_50 : decode cX7_isListed 50 = .ok (.iaload, 1) := by decide +kernel
theorem dX7_isListed_51 : decode cX7_isListed 51 = .ok (.if_icmp .ne 7, 3) := by decide +kernel
theorem dX7_isListed_54 : decode cX7_isListed 54 = .ok (.iconst 1, 1) := by decide +kernel
theorem dX7_isListed_55 : decode cX7_isListed 55 = .ok (.goto 4, 3) := by decide +kernel
theorem dX7_isListed_58 : decode cX7_isListed 58 = .ok (.iconst 0, 1) := by decide +kernel
theorem dX7_isListed_59 : decode cX7_isListed 59 = .ok (.istore_n 2, 1) := by decide +kernel
theorem dX7_isListed_60 : decode cX7_isListed 60 = .ok (.iinc 3 1, 3) := by decide +kernel
theorem dX7_isListed_63 : decode cX7_isListed 63 = .ok (.goto (-42), 3) := by decide +kernel
theorem dX7_isListed_66 : decode cX7_isListed 66 = .ok (.iload_n 2, 1) := by decide +kernel
theorem dX7_isListed_67 : decode cX7_isListed 67 = .ok (.ireturn, 1) := by decide +kernel
theorem dX7_enlist_0 : decode cX7_enlist 0 = .ok (.aload_n 0, 1) := by decide +kernel
theorem dX7_enlist_1 : decode cX7_enlist 1 = .ok (.getfield 193, 3) := by decide +kernel
theorem dX7_enlist_4 : decode cX7_enlist 4 = .ok (.bipush 40, 2) := by decide +kernel
theorem dX7_enlist_6 : decode cX7_enlist 6 = .ok (.if_icmp .gt 7, 3) := by decide +kernel
theorem dX7_enlist_9 : decode cX7_enlist 9 = .ok (.iconst 1, 1) := by decide +kernel
theorem dX7_enlist_10 : decode cX7_enlist 10 = .ok (.goto 4, 3) := by decide +kernel
theorem dX7_enlist_13 : decode cX7_enlist 13 = .ok (.iconst 0, 1) := by decide +kernel
theorem dX7_enlist_14 : decode cX7_enlist 14 = .ok (.istore_n 1, 1) := by decide +kernel
theorem dX7_enlist_15 : decode cX7_enlist 15 = .ok (.iconst 0, 1) := by decide +kernel
theorem dX7_enlist_16 : decode cX7_enlist 16 = .ok (.istore_n 2, 1) := by decide +kernel
theorem dX7_enlist_17 : decode cX7_enlist 17 = .ok (.iload_n 2, 1) := by decide +kernel
theorem dX7_enlist_18 : decode cX7_enlist 18 = .ok (.aload_n 0, 1) := by decide +kernel
theorem dX7_enlist_19 : decode cX7_enlist 19 = .ok (.getfield 193, 3) := by decide +kernel
theorem dX7_enlist_22 : decode cX7_enlist 22 = .ok (.if_icmp .ge 27, 3) := by decide +kernel
theorem dX7_enlist_25 : decode cX7_enlist 25 = .ok (.iload_n 1, 1) := by decide +kernel
theorem dX7_enlist_26 : decode cX7_enlist 26 = .ok (.ifCond .eq 23, 3) := by decide +kernel
theorem dX7_enlist_29 : decode cX7_enlist 29 = .ok (.aload_n 0, 1) := by decide +kernel
theorem dX7_enlist_30 : decode cX7_enlist 30 = .ok (.iload_n 2, 1) := by decide +kernel
theorem dX7_enlist_31 : decode cX7_enlist 31 = .ok (.invokevirtual 196, 3) := by decide +kernel
theorem dX7_enlist_34 : decode cX7_enlist 34 = .ok (.ifCond .ne 7, 3) := by decide +kernel
theorem dX7_enlist_37 : decode cX7_enlist 37 = .ok (.iconst 1, 1) := by decide +kernel
theorem dX7_enlist_38 : decode cX7_enlist 38 = .ok (.goto 4, 3) := by decide +kernel
theorem dX7_enlist_41 : decode cX7_enlist 41 = .ok (.iconst 0, 1) := by decide +kernel
theorem dX7_enlist_42 : decode cX7_enlist 42 = .ok (.istore_n 1, 1) := by decide +kernel
theorem dX7_enlist_43 : decode cX7_enlist 43 = .ok (.iinc 2 1, 3) := by decide +kernel
theorem dX7_enlist_46 : decode cX7_enlist 46 = .ok (.goto (-29), 3) := by decide +kernel
theorem dX7_enlist_49 : decode cX7_enlist 49 = .ok (.iload_n 1, 1) := by decide +kernel
theorem dX7_enlist_50 : decode cX7_enlist 50 = .ok (.ifCond .eq 64, 3) := by decide +kernel
theorem dX7_enlist_53 : decode cX7_enlist 53 = .ok (.aload_n 0, 1) := by decide +kernel
theorem dX7_enlist_54 : decode cX7_enlist 54 = .ok (.getfield 38, 3) := by decide +kernel
theorem dX7_enlist_57 : decode cX7_enlist 57 = .ok (.aload_n 0, 1) := by decide +kernel
theorem dX7_enlist_58 : decode cX7_enlist 58 = .ok (.getfield 193, 3) := by decide +kernel
theorem dX7_enlist_61 : decode cX7_enlist 61 = .ok (.aload_n 0, 1) := by decide +kernel
theorem dX7_enlist_62 : decode cX7_enlist 62 = .ok (.getfield 105, 3) := by decide +kernel
theorem dX7_enlist_65 : decode cX7_enlist 65 = .ok (.iastore, 1) := by decide +kernel
theorem dX7_enlist_66 : decode cX7_enlist 66 = .ok (.iconst 0, 1) := by decide +kernel
theorem dX7_enlist_67 : decode cX7_enlist 67 = .ok (.istore_n 2, 1) := by decide +kernel
theorem dX7_enlist_68 : decode cX7_enlist 68 = .ok (.iload_n 2, 1) := by decide +kernel
theorem dX7_enlist_69 : decode cX7_enlist 69 = .ok (.aload_n 0, 1) := by decide +kernel
theorem dX7_enlist_70 : decode cX7_enlist 70 = .ok (.getfield 105, 3) := by decide +kernel
theorem dX7_enlist_73 : decode cX7_enlist 73 = .ok (.if_icmp .ge 31, 3) := by decide +kernel
theorem dX7_enlist_76 : decode cX7_enlist 76 = .ok (.aload_n 0, 1) := by decide +kernel
theorem dX7_enlist_77 : decode cX7_enlist 77 = .ok (.getfield 41, 3) := by decide +kernel
theorem dX7_enlist_80 : decode cX7_enlist 80 = .ok (.sipush 128, 3) := by decide +kernel
theorem dX7_enlist_83 : decode cX7_enlist 83 = .ok (.aload_n 0, 1) := by decide +kernel
theorem dX7_enlist_84 : decode cX7_enlist 84 = .ok (.getfield 193, 3) := by decide +kernel
theorem dX7_enlist_87 : decode cX7_enlist 87 = .ok (.imul, 1) := by decide +kernel
theorem dX7_enlist_88 : decode cX7_enlist 88 = .ok (.iload_n 2, 1) := by decide +kernel
theorem dX7_enlist_89 : decode cX7_enlist 89 = .ok (.iadd, 1) := by decide +kernel
theorem dX7_enlist_90 : decode cX7_enlist 90 = .ok (.aload_n 0, 1) := by decide +kernel
theorem dX7_enlist_91 : decode cX7_enlist 91 = .ok (.getfield 35, 3) := by decide +kernel
theorem dX7_enlist_94 : decode cX7_enlist 94 = .ok (.iload_n 2, 1) := by decide +kernel
theorem dX7_enlist_95 : decode cX7_enlist 95 = .ok (.iaload, 1) := by decide +kernel
theorem dX7_enlist_96 : decode cX7_enlist 96 = .ok (.i2b, 1) := by decide +kernel
theorem dX7_enlist_97 : decode cX7_enlist 97 = .ok (.bastore, 1) := by decide +kernel
theorem dX7_enlist_98 : decode cX7_enlist 98 = .ok (.iinc 2 1, 3) := by decide +kernel
theorem dX7_enlist_101 : decode cX7_enlist 101 = .ok (.goto (-33), 3) := by decide +kernel
theorem dX7_enlist_104 : decode cX7_enlist 104 = .ok (.aload_n 0, 1) := by decide +kernel
theorem dX7_enlist_105 : decode cX7_enlist 105 = .ok (.dup, 1) := by decide +kernel
theorem dX7_enlist_106 : decode cX7_enlist 106 = .ok (.getfield 193, 3) := by decide +kernel
theorem dX7_enlist_109 : decode cX7_enlist 109 = .ok (.iconst 1, 1) := by decide +kernel
theorem dX7_enlist_110 : decode cX7_enlist 110 = .ok (.iadd, 1) := by decide +kernel
theorem dX7_enlist_111 : decode cX7_enlist 111 = .ok (.putfield 193, 3) := by decide +kernel
theorem dX7_enlist_114 : decode cX7_enlist 114 = .ok (.return_, 1) := by decide +kernel
theorem dX7_isFlipping_0 : decode cX7_isFlipping 0 = .ok (.iconst 0, 1) := by decide +kernel
theorem dX7_isFlipping_1 : decode cX7_isFlipping 1 = .ok (.istore_n 2, 1) := by decide +kernel
theorem dX7_isFlipping_2 : decode cX7_isFlipping 2 = .ok (.iconst 0, 1) := by decide +kernel
theorem dX7_isFlipping_3 : decode cX7_isFlipping 3 = .ok (.istore_n 3, 1) := by decide +kernel
theorem dX7_isFlipping_4 : decode cX7_isFlipping 4 = .ok (.iload_n 3, 1) := by decide +kernel
theorem dX7_isFlipping_5 : decode cX7_isFlipping 5 = .ok (.aload_n 0, 1) := by decide +kernel
theorem dX7_isFlipping_6 : decode cX7_isFlipping 6 = .ok (.getfield 38, 3) := by decide +kernel
theorem dX7_isFlipping_9 : decode cX7_isFlipping 9 = .ok (.iload_n 1, 1) := by decide +kernel
theorem dX7_isFlipping_10 : decode cX7_isFlipping 10 = .ok (.iaload, 1) := by decide +kernel
theorem dX7_isFlipping_11 : decode cX7_isFlipping 11 = .ok (.if_icmp .ge 30, 3) := by decide +kernel
theorem dX7_isFlipping_14 : decode cX7_isFlipping 14 = .ok (.iload_n 2, 1) := by decide +kernel
theorem dX7_isFlipping_15 : decode cX7_isFlipping 15 = .ok (.aload_n 0, 1) := by decide +kernel
theorem dX7_isFlipping_16 : decode cX7_isFlipping 16 = .ok (.aload_n 0, 1) := by decide +kernel
theorem dX7_isFlipping_17 : decode cX7_isFlipping 17 = .ok (.getfield 41, 3) := by decide +kernel
theorem dX7_isFlipping_20 : decode cX7_isFlipping 20 = .ok (.sipush 128, 3) := by decide +kernel
theorem dX7_isFlipping_23 : decode cX7_isFlipping 23 = .ok (.iload_n 1, 1) := by decide +kernel
theorem dX7_isFlipping_24 : decode cX7_isFlipping 24 = .ok (.imul, 1) := by decide +kernel
theorem dX7_isFlipping_25 : decode cX7_isFlipping 25 = .ok (.iload_n 3, 1) := by decide +kernel
theorem dX7_isFlipping_26 : decode cX7_isFlipping 26 = .ok (.iadd, 1) := by decide +kernel
theorem dX7_isFlipping_27 : decode cX7_isFlipping 27 = .ok (.baload, 1) := by decide +kernel
theorem dX7_isFlipping_28 : decode cX7_isFlipping 28 = .ok (.iconst 2, 1) := by decide +kernel
theorem dX7_isFlipping_29 : decode cX7_isFlipping 29 = .ok (.idiv, 1) := by decide +kernel
theorem dX7_isFlipping_30 : decode cX7_isFlipping 30 = .ok (.invokevirtual 124, 3) := by decide +kernel
theorem dX7_isFlipping_33 : decode cX7_isFlipping 33 = .ok (.iadd, 1) := by decide +kernel
theorem dX7_isFlipping_34 : decode cX7_isFlipping 34 = .ok (.istore_n 2, 1) := by decide +kernel
theorem dX7_isFlipping_35 : decode cX7_isFlipping 35 = .ok (.iinc 3 1, 3) := by decide +kernel
theorem dX7_isFlipping_38 : decode cX7_isFlipping 38 = .ok (.goto (-34), 3) := by decide +kernel
theorem dX7_isFlipping_41 : decode cX7_isFlipping 41 = .ok (.iload_n 2, 1) := by decide +kernel
theorem dX7_isFlipping_42 : decode cX7_isFlipping 42 = .ok (.iconst 2, 1) := by decide +kernel
theorem dX7_isFlipping_43 : decode cX7_isFlipping 43 = .ok (.irem, 1) := by decide +kernel
theorem dX7_isFlipping_44 : decode cX7_isFlipping 44 = .ok (.iconst 1, 1) := by decide +kernel
theorem dX7_isFlipping_45 : decode cX7_isFlipping 45 = .ok (.if_icmp .ne 7, 3) := by decide +kernel
theorem dX7_isFlipping_48 : decode cX7_isFlipping 48 = .ok (.iconst 1, 1) := by decide +kernel
theorem dX7_isFlipping_49 : decode cX7_isFlipping 49 = .ok (.goto 4, 3) := by decide +kernel
theorem dX7_isFlipping_52 : decode cX7_isFlipping 52 = .ok (.iconst 0, 1) := by decide +kernel
theorem dX7_isFlipping_53 : decode cX7_isFlipping 53 = .ok (.ireturn, 1) := by decide +kernel
theorem dX7_makeSection_0 : decode cX7_makeSection 0 = .ok (.iload_n 2, 1) := by decide +kernel
theorem dX7_makeSection_1 : decode cX7_makeSection 1 = .ok (.istore_n 3, 1) := by decide +kernel
theorem dX7_makeSection_2 : decode cX7_makeSection 2 = .ok (.aload_n 0, 1) := by decide +kernel
theorem dX7_makeSection_3 : decode cX7_makeSection 3 = .ok (.invokevirtual 118, 3) := by decide +kernel
theorem dX7_makeSection_6 : decode cX7_makeSection 6 = .ok (.iconst 0, 1) := by decide +kernel
theorem dX7_makeSection_7 : decode cX7_makeSection 7 = .ok (.istore 4, 2) := by decide +kernel
theorem dX7_makeSection_9 : decode cX7_makeSection 9 = .ok (.iload 4, 2) := by decide +kernel
theorem dX7_makeSection_11 : decode cX7_makeSection 11 = .ok (.aload_n 0, 1) := by decide +kernel
theorem dX7_makeSection_12 : decode cX7_makeSection 12 = .ok (.getfield 38, 3) := by decide +kernel
theorem dX7_makeSection_15 : decode cX7_makeSection 15 = .ok (.iload_n 1, 1) := by decide +kernel
theorem dX7_makeSection_16 : decode cX7_makeSection 16 = .ok (.iaload, 1) := by decide +kernel
theorem dX7_makeSection_17 : decode cX7_makeSection 17 = .ok (.if_icmp .ge 56, 3) := by decide +kernel
theorem dX7_makeSection_20 : decode cX7_makeSection 20 = .ok (.aload_n 0, 1) := by decide +kernel
theorem dX7_makeSection_21 : decode cX7_makeSection 21 = .ok (.getfield 41, 3) := by decide +kernel
theorem dX7_makeSection_24 : decode cX7_makeSection 24 = .ok (.sipush 128, 3) := by decide +kernel
theorem dX7_makeSection_27 : decode cX7_makeSection 27 = .ok (.iload_n 1, 1) := by decide +kernel
theorem dX7_makeSection_28 : decode cX7_makeSection 28 = .ok (.imul, 1) := by decide +kernel
theorem dX7_makeSection_29 : decode cX7_makeSection 29 = .ok (.iload 4, 2) := by decide +kernel
theorem dX7_makeSection_31 : decode cX7_makeSection 31 = .ok (.iadd, 1) := by decide +kernel
theorem dX7_makeSection_32 : decode cX7_makeSection 32 = .ok (.baload, 1) := by decide +kernel
theorem dX7_makeSection_33 : decode cX7_makeSection 33 = .ok (.istore 5, 2) := by decide +kernel
theorem dX7_makeSection_35 : decode cX7_makeSection 35 = .ok (.aload_n 0, 1) := by decide +kernel
theorem dX7_makeSection_36 : decode cX7_makeSection 36 = .ok (.iload 5, 2) := by decide +kernel
theorem dX7_makeSection_38 : decode cX7_makeSection 38 = .ok (.iload_n 3, 1) := by decide +kernel
theorem dX7_makeSection_39 : decode cX7_makeSection 39 = .ok (.invokevirtual 131, 3) := by decide +kernel
theorem dX7_makeSection_42 : decode cX7_makeSection 42 = .ok (.istore 6, 2) := by decide +kernel
theorem dX7_makeSection_44 : decode cX7_makeSection 44 = .ok (.iload 6, 2) := by decide +kernel
theorem dX7_makeSection_46 : decode cX7_makeSection 46 = .ok (.iconst (-1), 1) := by decide +kernel
theorem dX7_makeSection_47 : decode cX7_makeSection 47 = .ok (.if_icmp .eq 9, 3) := by decide +kernel
theorem dX7_makeSection_50 : decode cX7_makeSection 50 = .ok (.aload_n 0, 1) := by decide +kernel
theorem dX7_makeSection_51 : decode cX7_makeSection 51 = .ok (.iload 6, 2) := by decide +kernel
theorem dX7_makeSection_53 : decode cX7_makeSection 53 = .ok (.invokevirtual 108, 3) := by decide +kernel
theorem dX7_makeSection_56 : decode cX7_makeSection 56 = .ok (.iload_n 3, 1) := by decide +kernel
theorem dX7_makeSection_57 : decode cX7_makeSection 57 = .ok (.aload_n 0, 1) := by decide +kernel
theorem dX7_makeSection_58 : decode cX7_makeSection 58 = .ok (.iload 5, 2) := by decide +kernel
theorem dX7_makeSection_60 : decode cX7_makeSection 60 = .ok (.iconst 2, 1) := by decide +kernel
theorem dX7_makeSection_61 : decode cX7_makeSection 61 = .ok (.idiv, 1) := by decide +kernel
theorem dX7_makeSection_62 : decode cX7_makeSection 62 = .ok (.invokevirtual 124, 3) := by decide +kernel
theorem dX7_makeSection_65 : decode cX7_makeSection 65 = .ok (.ixor, 1) := by decide +kernel
theorem dX7_makeSection_66 : decode cX7_makeSection 66 = .ok (.istore_n 3, 1) := by decide +kernel
theorem dX7_makeSection_67 : decode cX7_makeSection 67 = .ok (.iinc 4 1, 3) := by decide +kernel
theorem dX7_makeSection_70 : decode cX7_makeSection 70 = .ok (.goto (-61), 3) := by decide +kernel
theorem dX7_makeSection_73 : decode cX7_makeSection 73 = .ok (.return_, 1) := by decide +kernel
theorem dX7_isNothing_0 : decode cX7_isNothing 0 = .ok (.aload_n 0, 1) := by decide +kernel
theorem dX7_isNothing_1 : decode cX7_isNothing 1 = .ok (.iconst 0, 1) := by decide +kernel
theorem dX7_isNothing_2 : decode cX7_isNothing 2 = .ok (.putfield 193, 3) := by decide +kernel
theorem dX7_isNothing_5 : decode cX7_isNothing 5 = .ok (.aload_n 0, 1) := by decide +kernel
theorem dX7_isNothing_6 : decode cX7_isNothing 6 = .ok (.invokevirtual 199, 3) := by decide +kernel
theorem dX7_isNothing_9 : decode cX7_isNothing 9 = .ok (.iconst 0, 1) := by decide +kernel
theorem dX7_isNothing_10 : decode cX7_isNothing 10 = .ok (.istore_n 1, 1) := by decide +kernel
theorem dX7_isNothing_11 : decode cX7_isNothing 11 = .ok (.iload_n 1, 1) := by decide +kernel
theorem dX7_isNothing_12 : decode cX7_isNothing 12 = .ok (.aload_n 0, 1) := by decide +kernel
theorem dX7_isNothing_13 : decode cX7_isNothing 13 = .ok (.getfield 193, 3) := by decide +kernel
theorem dX7_isNothing_16 : decode cX7_isNothing 16 = .ok (.if_icmp .ge 50, 3) := by decide +kernel
theorem dX7_isNothing_19 : decode cX7_isNothing 19 = .ok (.iload_n 1, 1) := by decide +kernel
theorem dX7_isNothing_20 : decode cX7_isNothing 20 = .ok (.bipush 40, 2) := by decide +kernel
theorem dX7_isNothing_22 : decode cX7_isNothing 22 = .ok (.if_icmp .ne 5, 3) := by decide +kernel
theorem dX7_isNothing_25 : decode cX7_isNothing 25 = .ok (.iconst (-1), 1) := by decide +kernel
theorem dX7_isNothing_26 : decode cX7_isNothing 26 = .ok (.ireturn, 1) := by decide +kernel
theorem dX7_isNothing_27 : decode cX7_isNothing 27 = .ok (.aload_n 0, 1) := by decide +kernel
theorem dX7_isNothing_28 : decode cX7_isNothing 28 = .ok (.iload_n 1, 1) := by decide +kernel
theorem dX7_isNothing_29 : decode cX7_isNothing 29 = .ok (.invokevirtual 202, 3) := by decide +kernel
theorem dX7_isNothing_32 : decode cX7_isNothing 32 = .ok (.ifCond .eq 5, 3) := by decide +kernel
theorem dX7_isNothing_35 : decode cX7_isNothing 35 = .ok (.iconst 0, 1) := by decide +kernel
theorem dX7_isNothing_36 : decode cX7_isNothing 36 = .ok (.ireturn, 1) := by decide +kernel
theorem dX7_isNothing_37 : decode cX7_isNothing 37 = .ok (.iconst 0, 1) := by decide +kernel
theorem dX7_isNothing_38 : decode cX7_isNothing 38 = .ok (.istore_n 2, 1) := by decide +kernel
theorem dX7_isNothing_39 : decode cX7_isNothing 39 = .ok (.iload_n 2, 1) := by decide +kernel
theorem dX7_isNothing_40 : decode cX7_isNothing 40 = .ok (.iconst 2, 1) := by decide +kernel
theorem dX7_isNothing_41 : decode cX7_isNothing 41 = .ok (.if_icmp .ge 19, 3) := by decide +kernel
theorem dX7_isNothing_44 : decode cX7_isNothing 44 = .ok (.aload_n 0, 1) := by decide +kernel
theorem dX7_isNothing_45 : decode cX7_isNothing 45 = .ok (.iload_n 1, 1) := by decide +kernel
theorem dX7_isNothing_46 : decode cX7_isNothing 46 = .ok (.iload_n 2, 1) := by decide +kernel
theorem dX7_isNothing_47 : decode cX7_isNothing 47 = .ok (.invokevirtual 205, 3) := by decide +kernel
theorem dX7_isNothing_50 : decode cX7_isNothing 50 = .ok (.aload_n 0, 1) := by decide +kernel
theorem dX7_isNothing_51 : decode cX7_isNothing 51 = .ok (.invokevirtual 199, 3) := by decide +kernel
theorem dX7_isNothing_54 : decode cX7_isNothing 54 = .ok (.iinc 2 1, 3) := by decide +kernel
theorem dX7_isNothing_57 : decode cX7_isNothing 57 = .ok (.goto (-18), 3) := by decide +kernel
theorem dX7_isNothing_60 : decode cX7_isNothing 60 = .ok (.iinc 1 1, 3) := by decide +kernel
theorem dX7_isNothing_63 : decode cX7_isNothing 63 = .ok (.goto (-52), 3) := by decide +kernel
theorem dX7_isNothing_66 : decode cX7_isNothing 66 = .ok (.iconst 1, 1) := by decide +kernel
theorem dX7_isNothing_67 : decode cX7_isNothing 67 = .ok (.ireturn, 1) := by decide +kernel
theorem dX7_nothingOf_0 : decode cX7_nothingOf 0 = .ok (.aload_n 0, 1) := by decide +kernel
theorem dX7_nothingOf_1 : decode cX7_nothingOf 1 = .ok (.invokevirtual 118, 3) := by decide +kernel
theorem dX7_nothingOf_4 : decode cX7_nothingOf 4 = .ok (.aload_n 0, 1) := by decide +kernel
theorem dX7_nothingOf_5 : decode cX7_nothingOf 5 = .ok (.iload_n 1, 1) := by decide +kernel
theorem dX7_nothingOf_6 : decode cX7_nothingOf 6 = .ok (.invokevirtual 209, 3) := by decide +kernel
theorem dX7_nothingOf_9 : decode cX7_nothingOf 9 = .ok (.aload_n 0, 1) := by decide +kernel
theorem dX7_nothingOf_10 : decode cX7_nothingOf 10 = .ok (.invokevirtual 212, 3) := by decide +kernel
theorem dX7_nothingOf_13 : decode cX7_nothingOf 13 = .ok (.ireturn, 1) := by decide +kernel
theorem dX7_nothing_0 : decode cX7_nothing 0 = .ok (.aload_n 0, 1) := by decide +kernel
theorem dX7_nothing_1 : decode cX7_nothing 1 = .ok (.iload_n 1, 1) := by decide +kernel
theorem dX7_nothing_2 : decode cX7_nothing 2 = .ok (.invokevirtual 112, 3) := by decide +kernel
theorem dX7_nothing_5 : decode cX7_nothing 5 = .ok (.ifCond .eq 11, 3) := by decide +kernel
theorem dX7_nothing_8 : decode cX7_nothing 8 = .ok (.aload_n 0, 1) := by decide +kernel
theorem dX7_nothing_9 : decode cX7_nothing 9 = .ok (.iload_n 1, 1) := by decide +kernel
theorem dX7_nothing_10 : decode cX7_nothing 10 = .ok (.invokevirtual 215, 3) := by decide +kernel
theorem dX7_nothing_13 : decode cX7_nothing 13 = .ok (.goto 5, 3) := by decide +kernel
theorem dX7_nothing_16 : decode cX7_nothing 16 = .ok (.bipush (-101), 2) := by decide +kernel
theorem dX7_nothing_18 : decode cX7_nothing 18 = .ok (.ireturn, 1) := by decide +kernel
theorem dX7_alike_0 : decode cX7_alike 0 = .ok (.aload_n 0, 1) := by decide +kernel
theorem dX7_alike_1 : decode cX7_alike 1 = .ok (.iload_n 1, 1) := by decide +kernel
theorem dX7_alike_2 : decode cX7_alike 2 = .ok (.invokevirtual 112, 3) := by decide +kernel
theorem dX7_alike_5 : decode cX7_alike 5 = .ok (.ifCond .eq 11, 3) := by decide +kernel
theorem dX7_alike_8 : decode cX7_alike 8 = .ok (.aload_n 0, 1) := by decide +kernel
theorem dX7_alike_9 : decode cX7_alike 9 = .ok (.iload_n 2, 1) := by decide +kernel
theorem dX7_alike_10 : decode cX7_alike 10 = .ok (.invokevirtual 112, 3) := by decide +kernel
theorem dX7_alike_13 : decode cX7_alike 13 = .ok (.ifCond .ne 6, 3) := by decide +kernel
theorem dX7_alike_16 : decode cX7_alike 16 = .ok (.bipush (-101), 2) := by decide +kernel
theorem dX7_alike_18 : decode cX7_alike 18 = .ok (.ireturn, 1) := by decide +kernel
theorem dX7_alike_19 : decode cX7_alike 19 = .ok (.aload_n 0, 1) := by decide +kernel
theorem dX7_alike_20 : decode cX7_alike 20 = .ok (.invokevirtual 118, 3) := by decide +kernel
theorem dX7_alike_23 : decode cX7_alike 23 = .ok (.aload_n 0, 1) := by decide +kernel
theorem dX7_alike_24 : decode cX7_alike 24 = .ok (.iload_n 1, 1) := by decide +kernel
theorem dX7_alike_25 : decode cX7_alike 25 = .ok (.invokevirtual 209, 3) := by decide +kernel
theorem dX7_alike_28 : decode cX7_alike 28 = .ok (.aload_n 0, 1) := by decide +kernel
theorem dX7_alike_29 : decode cX7_alike 29 = .ok (.iload_n 2, 1) := by decide +kernel
theorem dX7_alike_30 : decode cX7_alike 30 = .ok (.invokevirtual 218, 3) := by decide +kernel
theorem dX7_alike_33 : decode cX7_alike 33 = .ok (.aload_n 0, 1) := by decide +kernel
theorem dX7_alike_34 : decode cX7_alike 34 = .ok (.invokevirtual 212, 3) := by decide +kernel
theorem dX7_alike_37 : decode cX7_alike 37 = .ok (.ireturn, 1) := by decide +kernel
theorem dX7_orderOf_0 : decode cX7_orderOf 0 = .ok (.iconst 1, 1) := by decide +kernel
theorem dX7_orderOf_1 : decode cX7_orderOf 1 = .ok (.istore_n 2, 1) := by decide +kernel
theorem dX7_orderOf_2 : decode cX7_orderOf 2 = .ok (.iload_n 2, 1) := by decide +kernel
theorem dX7_orderOf_3 : decode cX7_orderOf 3 = .ok (.bipush 8, 2) := by decide +kernel
theorem dX7_orderOf_5 : decode cX7_orderOf 5 = .ok (.if_icmp .gt 51, 3) := by decide +kernel
theorem dX7_orderOf_8 : decode cX7_orderOf 8 = .ok (.aload_n 0, 1) := by decide +kernel
theorem dX7_orderOf_9 : decode cX7_orderOf 9 = .ok (.invokevirtual 118, 3) := by decide +kernel
theorem dX7_orderOf_12 : decode cX7_orderOf 12 = .ok (.iconst 0, 1) := by decide +kernel
theorem dX7_orderOf_13 : decode cX7_orderOf 13 = .ok (.istore_n 3, 1) := by decide +kernel
theorem dX7_orderOf_14 : decode cX7_orderOf 14 = .ok (.iload_n 3, 1) := by decide +kernel
theorem dX7_orderOf_15 : decode cX7_orderOf 15 = .ok (.iload_n 2, 1) := by decide +kernel
theorem dX7_orderOf_16 : decode cX7_orderOf 16 = .ok (.if_icmp .ge 14, 3) := by decide +kernel
theorem dX7_orderOf_19 : decode cX7_orderOf 19 = .ok (.aload_n 0, 1) := by decide +kernel
theorem dX7_orderOf_20 : decode cX7_orderOf 20 = .ok (.iload_n 1, 1) := by decide +kernel
theorem dX7_orderOf_21 : decode cX7_orderOf 21 = .ok (.invokevirtual 209, 3) := by decide +kernel
theorem dX7_orderOf_24 : decode cX7_orderOf 24 = .ok (.iinc 3 1, 3) := by decide +kernel
theorem dX7_orderOf_27 : decode cX7_orderOf 27 = .ok (.goto (-13), 3) := by decide +kernel
theorem dX7_orderOf_30 : decode cX7_orderOf 30 = .ok (.aload_n 0, 1) := by decide +kernel
theorem dX7_orderOf_31 : decode cX7_orderOf 31 = .ok (.invokevirtual 212, 3) := by decide +kernel
theorem dX7_orderOf_34 : decode cX7_orderOf 34 = .ok (.istore_n 3, 1) := by decide +kernel
theorem dX7_orderOf_35 : decode cX7_orderOf 35 = .ok (.iload_n 3, 1) := by decide +kernel
theorem dX7_orderOf_36 : decode cX7_orderOf 36 = .ok (.ifCond .eq 14, 3) := by decide +kernel
theorem dX7_orderOf_39 : decode cX7_orderOf 39 = .ok (.iload_n 3, 1) := by decide +kernel
theorem dX7_orderOf_40 : decode cX7_orderOf 40 = .ok (.iconst 1, 1) := by decide +kernel
theorem dX7_orderOf_41 : decode cX7_orderOf 41 = .ok (.if_icmp .ne 7, 3) := by decide +kernel
theorem dX7_orderOf_44 : decode cX7_orderOf 44 = .ok (.iload_n 2, 1) := by decide +kernel
theorem dX7_orderOf_45 : decode cX7_orderOf 45 = .ok (.goto 4, 3) := by decide +kernel
theorem dX7_orderOf_48 : decode cX7_orderOf 48 = .ok (.iconst (-1), 1) := by decide +kernel
theorem dX7_orderOf_49 : decode cX7_orderOf 49 = .ok (.ireturn, 1) := by decide +kernel
theorem dX7_orderOf_50 : decode cX7_orderOf 50 = .ok (.iinc 2 1, 3) := by decide +kernel
theorem dX7_orderOf_53 : decode cX7_orderOf 53 = .ok (.goto (-51), 3) := by decide +kernel
theorem dX7_orderOf_56 : decode cX7_orderOf 56 = .ok (.iconst (-1), 1) := by decide +kernel
theorem dX7_orderOf_57 : decode cX7_orderOf 57 = .ok (.ireturn, 1) := by decide +kernel
theorem dX7_order_0 : decode cX7_order 0 = .ok (.aload_n 0, 1) := by decide +kernel
theorem dX7_order_1 : decode cX7_order 1 = .ok (.iload_n 1, 1) := by decide +kernel
theorem dX7_order_2 : decode cX7_order 2 = .ok (.invokevirtual 112, 3) := by decide +kernel
theorem dX7_order_5 : decode cX7_order 5 = .ok (.ifCond .eq 11, 3) := by decide +kernel
theorem dX7_order_8 : decode cX7_order 8 = .ok (.aload_n 0, 1) := by decide +kernel
theorem dX7_order_9 : decode cX7_order 9 = .ok (.iload_n 1, 1) := by decide +kernel
theorem dX7_order_10 : decode cX7_order 10 = .ok (.invokevirtual 221, 3) := by decide +kernel
theorem dX7_order_13 : decode cX7_order 13 = .ok (.goto 5, 3) := by decide +kernel
theorem dX7_order_16 : decode cX7_order 16 = .ok (.bipush (-101), 2) := by decide +kernel
theorem dX7_order_18 : decode cX7_order 18 = .ok (.ireturn, 1) := by decide +kernel
theorem dX7_times_0 : decode cX7_times 0 = .ok (.aload_n 0, 1) := by decide +kernel
theorem dX7_times_1 : decode cX7_times 1 = .ok (.iload_n 1, 1) := by decide +kernel
theorem dX7_times_2 : decode cX7_times 2 = .ok (.invokevirtual 112, 3) := by decide +kernel
theorem dX7_times_5 : decode cX7_times 5 = .ok (.ifCond .eq 19, 3) := by decide +kernel
theorem dX7_times_8 : decode cX7_times 8 = .ok (.aload_n 0, 1) := by decide +kernel
theorem dX7_times_9 : decode cX7_times 9 = .ok (.iload_n 2, 1) := by decide +kernel
theorem dX7_times_10 : decode cX7_times 10 = .ok (.invokevirtual 112, 3) := by decide +kernel
theorem dX7_times_13 : decode cX7_times 13 = .ok (.ifCond .eq 11, 3) := by decide +kernel
theorem dX7_times_16 : decode cX7_times 16 = .ok (.aload_n 0, 1) := by decide +kernel
theorem dX7_times_17 : decode cX7_times 17 = .ok (.iload_n 3, 1) := by decide +kernel
theorem dX7_times_18 : decode cX7_times 18 = .ok (.invokevirtual 112, 3) := by decide +kernel
theorem dX7_times_21 : decode cX7_times 21 = .ok (.ifCond .ne 6, 3) := by decide +kernel
theorem dX7_times_24 : decode cX7_times 24 = .ok (.bipush (-101), 2) := by decide +kernel
theorem dX7_times_26 : decode cX7_times 26 = .ok (.ireturn, 1) := by decide +kernel
theorem dX7_times_27 : decode cX7_times 27 = .ok (.aload_n 0, 1) := by decide +kernel
theorem dX7_times_28 : decode cX7_times 28 = .ok (.invokevirtual 118, 3) := by decide +kernel
theorem dX7_times_31 : decode cX7_times 31 = .ok (.aload_n 0, 1) := by decide +kernel
theorem dX7_times_32 : decode cX7_times 32 = .ok (.iload_n 1, 1) := by decide +kernel
theorem dX7_times_33 : decode cX7_times 33 = .ok (.invokevirtual 209, 3) := by decide +kernel
theorem dX7_times_36 : decode cX7_times 36 = .ok (.aload_n 0, 1) := by decide +kernel
theorem dX7_times_37 : decode cX7_times 37 = .ok (.iload_n 2, 1) := by decide +kernel
theorem dX7_times_38 : decode cX7_times 38 = .ok (.invokevirtual 209, 3) := by decide +kernel
theorem dX7_times_41 : decode cX7_times 41 = .ok (.aload_n 0, 1) := by decide +kernel
theorem dX7_times_42 : decode cX7_times 42 = .ok (.getfield 105, 3) := by decide +kernel
theorem dX7_times_45 : decode cX7_times 45 = .ok (.bipush 16, 2) := by decide +kernel
theorem dX7_times_47 : decode cX7_times 47 = .ok (.if_icmp .le 8, 3) := by decide +kernel
theorem dX7_times_50 : decode cX7_times 50 = .ok (.bipush (-104), 2) := by decide +kernel
theorem dX7_times_52 : decode cX7_times 52 = .ok (.goto 8, 3) := by decide +kernel
theorem dX7_times_55 : decode cX7_times 55 = .ok (.aload_n 0, 1) := by decide +kernel
theorem dX7_times_56 : decode cX7_times 56 = .ok (.iload_n 3, 1) := by decide +kernel
theorem dX7_times_57 : decode cX7_times 57 = .ok (.invokevirtual 121, 3) := by decide +kernel
theorem dX7_times_60 : decode cX7_times 60 = .ok (.ireturn, 1) := by decide +kernel
theorem dX7_undo_0 : decode cX7_undo 0 = .ok (.aload_n 0, 1) := by decide +kernel
theorem dX7_undo_1 : decode cX7_undo 1 = .ok (.iload_n 1, 1) := by decide +kernel
theorem dX7_undo_2 : decode cX7_undo 2 = .ok (.invokevirtual 112, 3) := by decide +kernel
theorem dX7_undo_5 : decode cX7_undo 5 = .ok (.ifCond .eq 11, 3) := by decide +kernel
theorem dX7_undo_8 : decode cX7_undo 8 = .ok (.aload_n 0, 1) := by decide +kernel
theorem dX7_undo_9 : decode cX7_undo 9 = .ok (.iload_n 2, 1) := by decide +kernel
theorem dX7_undo_10 : decode cX7_undo 10 = .ok (.invokevirtual 112, 3) := by decide +kernel
theorem dX7_undo_13 : decode cX7_undo 13 = .ok (.ifCond .ne 6, 3) := by decide +kernel
theorem dX7_undo_16 : decode cX7_undo 16 = .ok (.bipush (-101), 2) := by decide +kernel
theorem dX7_undo_18 : decode cX7_undo 18 = .ok (.ireturn, 1) := by decide +kernel
theorem dX7_undo_19 : decode cX7_undo 19 = .ok (.aload_n 0, 1) := by decide +kernel
theorem dX7_undo_20 : decode cX7_undo 20 = .ok (.invokevirtual 118, 3) := by decide +kernel
theorem dX7_undo_23 : decode cX7_undo 23 = .ok (.aload_n 0, 1) := by decide +kernel
theorem dX7_undo_24 : decode cX7_undo 24 = .ok (.iload_n 1, 1) := by decide +kernel
theorem dX7_undo_25 : decode cX7_undo 25 = .ok (.invokevirtual 218, 3) := by decide +kernel
theorem dX7_undo_28 : decode cX7_undo 28 = .ok (.aload_n 0, 1) := by decide +kernel
theorem dX7_undo_29 : decode cX7_undo 29 = .ok (.iload_n 2, 1) := by decide +kernel
theorem dX7_undo_30 : decode cX7_undo 30 = .ok (.invokevirtual 121, 3) := by decide +kernel
theorem dX7_undo_33 : decode cX7_undo 33 = .ok (.ireturn, 1) := by decide +kernel
theorem dX7_section_0 : decode cX7_section 0 = .ok (.aload_n 0, 1) := by decide +kernel
theorem dX7_section_1 : decode cX7_section 1 = .ok (.iload_n 1, 1) := by decide +kernel
theorem dX7_section_2 : decode cX7_section 2 = .ok (.invokevirtual 112, 3) := by decide +kernel
theorem dX7_section_5 : decode cX7_section 5 = .ok (.ifCond .eq 11, 3) := by decide +kernel
theorem dX7_section_8 : decode cX7_section 8 = .ok (.aload_n 0, 1) := by decide +kernel
theorem dX7_section_9 : decode cX7_section 9 = .ok (.iload_n 3, 1) := by decide +kernel
theorem dX7_section_10 : decode cX7_section 10 = .ok (.invokevirtual 112, 3) := by decide +kernel
theorem dX7_section_13 : decode cX7_section 13 = .ok (.ifCond .ne 6, 3) := by decide +kernel
theorem dX7_section_16 : decode cX7_section 16 = .ok (.bipush (-101), 2) := by decide +kernel
theorem dX7_section_18 : decode cX7_section 18 = .ok (.ireturn, 1) := by decide +kernel
theorem dX7_section_19 : decode cX7_section 19 = .ok (.iload_n 2, 1) := by decide +kernel
theorem dX7_section_20 : decode cX7_section 20 = .ok (.iconst 0, 1) := by decide +kernel
theorem dX7_section_21 : decode cX7_section 21 = .ok (.iconst 1, 1) := by decide +kernel
theorem dX7_section_22 : decode cX7_section 22 = .ok (.invokestatic 69, 3) := by decide +kernel
theorem dX7_section_25 : decode cX7_section 25 = .ok (.ifCond .ne 6, 3) := by decide +kernel
theorem dX7_section_28 : decode cX7_section 28 = .ok (.bipush (-102), 2) := by decide +kernel
theorem dX7_section_30 : decode cX7_section 30 = .ok (.ireturn, 1) := by decide +kernel
theorem dX7_section_31 : decode cX7_section 31 = .ok (.aload_n 0, 1) := by decide +kernel
theorem dX7_section_32 : decode cX7_section 32 = .ok (.iconst 0, 1) := by decide +kernel
theorem dX7_section_33 : decode cX7_section 33 = .ok (.putfield 193, 3) := by decide +kernel
theorem dX7_section_36 : decode cX7_section 36 = .ok (.aload_n 0, 1) := by decide +kernel
theorem dX7_section_37 : decode cX7_section 37 = .ok (.invokevirtual 118, 3) := by decide +kernel
theorem dX7_section_40 : decode cX7_section 40 = .ok (.aload_n 0, 1) := by decide +kernel
theorem dX7_section_41 : decode cX7_section 41 = .ok (.iload_n 1, 1) := by decide +kernel
theorem dX7_section_42 : decode cX7_section 42 = .ok (.invokevirtual 209, 3) := by decide +kernel
theorem dX7_section_45 : decode cX7_section 45 = .ok (.aload_n 0, 1) := by decide +kernel
theorem dX7_section_46 : decode cX7_section 46 = .ok (.invokevirtual 199, 3) := by decide +kernel
theorem dX7_section_49 : decode cX7_section 49 = .ok (.aload_n 0, 1) := by decide +kernel
theorem dX7_section_50 : decode cX7_section 50 = .ok (.iconst 0, 1) := by decide +kernel
theorem dX7_section_51 : decode cX7_section 51 = .ok (.iload_n 2, 1) := by decide +kernel
theorem dX7_section_52 : decode cX7_section 52 = .ok (.invokevirtual 205, 3) := by decide +kernel
theorem dX7_section_55 : decode cX7_section 55 = .ok (.aload_n 0, 1) := by decide +kernel
theorem dX7_section_56 : decode cX7_section 56 = .ok (.iload_n 3, 1) := by decide +kernel
theorem dX7_section_57 : decode cX7_section 57 = .ok (.invokevirtual 121, 3) := by decide +kernel
theorem dX7_section_60 : decode cX7_section 60 = .ok (.ireturn, 1) := by decide +kernel
theorem dX7_aim_0 : decode cX7_aim 0 = .ok (.aload_n 0, 1) := by decide +kernel
theorem dX7_aim_1 : decode cX7_aim 1 = .ok (.iload_n 1, 1) := by decide +kernel
theorem dX7_aim_2 : decode cX7_aim 2 = .ok (.invokevirtual 169, 3) := by decide +kernel
theorem dX7_aim_5 : decode cX7_aim 5 = .ok (.ifCond .eq 16, 3) := by decide +kernel
theorem dX7_aim_8 : decode cX7_aim 8 = .ok (.iload_n 3, 1) := by decide +kernel
theorem dX7_aim_9 : decode cX7_aim 9 = .ok (.iconst (-1), 1) := by decide +kernel
theorem dX7_aim_10 : decode cX7_aim 10 = .ok (.if_icmp .eq 14, 3) := by decide +kernel
theorem dX7_aim_13 : decode cX7_aim 13 = .ok (.aload_n 0, 1) := by decide +kernel
theorem dX7_aim_14 : decode cX7_aim 14 = .ok (.iload_n 3, 1) := by decide +kernel
theorem dX7_aim_15 : decode cX7_aim 15 = .ok (.invokevirtual 169, 3) := by decide +kernel
theorem dX7_aim_18 : decode cX7_aim 18 = .ok (.ifCond .ne 6, 3) := by decide +kernel
theorem dX7_aim_21 : decode cX7_aim 21 = .ok (.bipush (-101), 2) := by decide +kernel
theorem dX7_aim_23 : decode cX7_aim 23 = .ok (.ireturn, 1) := by decide +kernel
theorem dX7_aim_24 : decode cX7_aim 24 = .ok (.iload_n 2, 1) := by decide +kernel
theorem dX7_aim_25 : decode cX7_aim 25 = .ok (.iconst 0, 1) := by decide +kernel
theorem dX7_aim_26 : decode cX7_aim 26 = .ok (.iconst 1, 1) := by decide +kernel
theorem dX7_aim_27 : decode cX7_aim 27 = .ok (.invokestatic 69, 3) := by decide +kernel
theorem dX7_aim_30 : decode cX7_aim 30 = .ok (.ifCond .ne 6, 3) := by decide +kernel
theorem dX7_aim_33 : decode cX7_aim 33 = .ok (.bipush (-102), 2) := by decide +kernel
theorem dX7_aim_35 : decode cX7_aim 35 = .ok (.ireturn, 1) := by decide +kernel
theorem dX7_aim_36 : decode cX7_aim 36 = .ok (.aload_n 0, 1) := by decide +kernel
theorem dX7_aim_37 : decode cX7_aim 37 = .ok (.getfield 13, 3) := by decide +kernel
theorem dX7_aim_40 : decode cX7_aim 40 = .ok (.iconst 2, 1) := by decide +kernel
theorem dX7_aim_41 : decode cX7_aim 41 = .ok (.iload_n 1, 1) := by decide +kernel
theorem dX7_aim_42 : decode cX7_aim 42 = .ok (.imul, 1) := by decide +kernel
theorem dX7_aim_43 : decode cX7_aim 43 = .ok (.iload_n 2, 1) := by decide +kernel
theorem dX7_aim_44 : decode cX7_aim 44 = .ok (.iadd, 1) := by decide +kernel
theorem dX7_aim_45 : decode cX7_aim 45 = .ok (.iaload, 1) := by decide +kernel
theorem dX7_aim_46 : decode cX7_aim 46 = .ok (.istore 4, 2) := by decide +kernel
theorem dX7_aim_48 : decode cX7_aim 48 = .ok (.aload_n 0, 1) := by decide +kernel
theorem dX7_aim_49 : decode cX7_aim 49 = .ok (.getfield 13, 3) := by decide +kernel
theorem dX7_aim_52 : decode cX7_aim 52 = .ok (.iconst 2, 1) := by decide +kernel
theorem dX7_aim_53 : decode cX7_aim 53 = .ok (.iload_n 1, 1) := by decide +kernel
theorem dX7_aim_54 : decode cX7_aim 54 = .ok (.imul, 1) := by decide +kernel
theorem dX7_aim_55 : decode cX7_aim 55 = .ok (.iload_n 2, 1) := by decide +kernel
theorem dX7_aim_56 : decode cX7_aim 56 = .ok (.iadd, 1) := by decide +kernel
theorem dX7_aim_57 : decode cX7_aim 57 = .ok (.iload_n 3, 1) := by decide +kernel
theorem dX7_aim_58 : decode cX7_aim 58 = .ok (.iastore, 1) := by decide +kernel
theorem dX7_aim_59 : decode cX7_aim 59 = .ok (.iload 4, 2) := by decide +kernel
theorem dX7_aim_61 : decode cX7_aim 61 = .ok (.ireturn, 1) := by decide +kernel
theorem dX7_change_0 : decode cX7_change 0 = .ok (.aload_n 0, 1) := by decide +kernel
theorem dX7_change_1 : decode cX7_change 1 = .ok (.iload_n 1, 1) := by decide +kernel
theorem dX7_change_2 : decode cX7_change 2 = .ok (.invokevirtual 169, 3) := by decide +kernel
theorem dX7_change_5 : decode cX7_change 5 = .ok (.ifCond .ne 6, 3) := by decide +kernel
theorem dX7_change_8 : decode cX7_change 8 = .ok (.bipush (-101), 2) := by decide +kernel
theorem dX7_change_10 : decode cX7_change 10 = .ok (.ireturn, 1) := by decide +kernel
theorem dX7_change_11 : decode cX7_change 11 = .ok (.iload_n 2, 1) := by decide +kernel
theorem dX7_change_12 : decode cX7_change 12 = .ok (.iconst 0, 1) := by decide +kernel
theorem dX7_change_13 : decode cX7_change 13 = .ok (.iconst 4, 1) := by decide +kernel
theorem dX7_change_14 : decode cX7_change 14 = .ok (.invokestatic 69, 3) := by decide +kernel
theorem dX7_change_17 : decode cX7_change 17 = .ok (.ifCond .ne 6, 3) := by decide +kernel
theorem dX7_change_20 : decode cX7_change 20 = .ok (.bipush (-102), 2) := by decide +kernel
theorem dX7_change_22 : decode cX7_change 22 = .ok (.ireturn, 1) := by decide +kernel
theorem dX7_change_23 : decode cX7_change 23 = .ok (.aload_n 0, 1) := by decide +kernel
theorem dX7_change_24 : decode cX7_change 24 = .ok (.getfield 7, 3) := by decide +kernel
theorem dX7_change_27 : decode cX7_change 27 = .ok (.iload_n 1, 1) := by decide +kernel
theorem dX7_change_28 : decode cX7_change 28 = .ok (.iaload, 1) := by decide +kernel
theorem dX7_change_29 : decode cX7_change 29 = .ok (.istore_n 3, 1) := by decide +kernel
theorem dX7_change_30 : decode cX7_change 30 = .ok (.aload_n 0, 1) := by decide +kernel
theorem dX7_change_31 : decode cX7_change 31 = .ok (.getfield 7, 3) := by decide +kernel
theorem dX7_change_34 : decode cX7_change 34 = .ok (.iload_n 1, 1) := by decide +kernel
theorem dX7_change_35 : decode cX7_change 35 = .ok (.iload_n 2, 1) := by decide +kernel
theorem dX7_change_36 : decode cX7_change 36 = .ok (.iastore, 1) := by decide +kernel
theorem dX7_change_37 : decode cX7_change 37 = .ok (.iload_n 3, 1) := by decide +kernel
theorem dX7_change_38 : decode cX7_change 38 = .ok (.ireturn, 1) := by decide +kernel
theorem dX7_see_0 : decode cX7_see 0 = .ok (.aload_n 0, 1) := by decide +kernel
theorem dX7_see_1 : decode cX7_see 1 = .ok (.iload_n 1, 1) := by decide +kernel
theorem dX7_see_2 : decode cX7_see 2 = .ok (.invokevirtual 169, 3) := by decide +kernel
theorem dX7_see_5 : decode cX7_see 5 = .ok (.ifCond .ne 6, 3) := by decide +kernel
theorem dX7_see_8 : decode cX7_see 8 = .ok (.bipush (-101), 2) := by decide +kernel
theorem dX7_see_10 : decode cX7_see 10 = .ok (.ireturn, 1) := by decide +kernel
theorem dX7_see_11 : decode cX7_see 11 = .ok (.iload_n 2, 1) := by decide +kernel
theorem dX7_see_12 : decode cX7_see 12 = .ok (.iconst 0, 1) := by decide +kernel
theorem dX7_see_13 : decode cX7_see 13 = .ok (.iconst 3, 1) := by decide +kernel
theorem dX7_see_14 : decode cX7_see 14 = .ok (.invokestatic 69, 3) := by decide +kernel
theorem dX7_see_17 : decode cX7_see 17 = .ok (.ifCond .ne 6, 3) := by decide +kernel
theorem dX7_see_20 : decode cX7_see 20 = .ok (.bipush (-102), 2) := by decide +kernel
theorem dX7_see_22 : decode cX7_see 22 = .ok (.ireturn, 1) := by decide +kernel
theorem dX7_see_23 : decode cX7_see 23 = .ok (.aload_n 0, 1) := by decide +kernel
theorem dX7_see_24 : decode cX7_see 24 = .ok (.getfield 99, 3) := by decide +kernel
theorem dX7_see_27 : decode cX7_see 27 = .ok (.bipush 6, 2) := by decide +kernel
theorem dX7_see_29 : decode cX7_see 29 = .ok (.if_icmp .ne 6, 3) := by decide +kernel
theorem dX7_see_32 : decode cX7_see 32 = .ok (.bipush (-104), 2) := by decide +kernel
theorem dX7_see_34 : decode cX7_see 34 = .ok (.ireturn, 1) := by decide +kernel
theorem dX7_see_35 : decode cX7_see 35 = .ok (.aload_n 0, 1) := by decide +kernel
theorem dX7_see_36 : decode cX7_see 36 = .ok (.getfield 22, 3) := by decide +kernel
theorem dX7_see_39 : decode cX7_see 39 = .ok (.aload_n 0, 1) := by decide +kernel
theorem dX7_see_40 : decode cX7_see 40 = .ok (.getfield 99, 3) := by decide +kernel
theorem dX7_see_43 : decode cX7_see 43 = .ok (.iload_n 1, 1) := by decide +kernel
theorem dX7_see_44 : decode cX7_see 44 = .ok (.iastore, 1) := by decide +kernel
theorem dX7_see_45 : decode cX7_see 45 = .ok (.aload_n 0, 1) := by decide +kernel
theorem dX7_see_46 : decode cX7_see 46 = .ok (.getfield 25, 3) := by decide +kernel
theorem dX7_see_49 : decode cX7_see 49 = .ok (.aload_n 0, 1) := by decide +kernel
theorem dX7_see_50 : decode cX7_see 50 = .ok (.getfield 99, 3) := by decide +kernel
theorem dX7_see_53 : decode cX7_see 53 = .ok (.iload_n 2, 1) := by decide +kernel
theorem dX7_see_54 : decode cX7_see 54 = .ok (.iastore, 1) := by decide +kernel
theorem dX7_see_55 : decode cX7_see 55 = .ok (.aload_n 0, 1) := by decide +kernel
theorem dX7_see_56 : decode cX7_see 56 = .ok (.getfield 28, 3) := by decide +kernel
theorem dX7_see_59 : decode cX7_see 59 = .ok (.aload_n 0, 1) := by decide +kernel
theorem dX7_see_60 : decode cX7_see 60 = .ok (.getfield 99, 3) := by decide +kernel
theorem dX7_see_63 : decode cX7_see 63 = .ok (.iload_n 3, 1) := by decide +kernel
theorem dX7_see_64 : decode cX7_see 64 = .ok (.bastore, 1) := by decide +kernel
theorem dX7_see_65 : decode cX7_see 65 = .ok (.aload_n 0, 1) := by decide +kernel
theorem dX7_see_66 : decode cX7_see 66 = .ok (.dup, 1) := by decide +kernel
theorem dX7_see_67 : decode cX7_see 67 = .ok (.getfield 99, 3) := by decide +kernel
theorem dX7_see_70 : decode cX7_see 70 = .ok (.iconst 1, 1) := by decide +kernel
theorem dX7_see_71 : decode cX7_see 71 = .ok (.iadd, 1) := by decide +kernel
theorem dX7_see_72 : decode cX7_see 72 = .ok (.putfield 99, 3) := by decide +kernel
theorem dX7_see_75 : decode cX7_see 75 = .ok (.aload_n 0, 1) := by decide +kernel
theorem dX7_see_76 : decode cX7_see 76 = .ok (.getfield 99, 3) := by decide +kernel
theorem dX7_see_79 : decode cX7_see 79 = .ok (.ireturn, 1) := by decide +kernel
theorem dX7_forget_0 : decode cX7_forget 0 = .ok (.aload_n 0, 1) := by decide +kernel
theorem dX7_forget_1 : decode cX7_forget 1 = .ok (.getfield 99, 3) := by decide +kernel
theorem dX7_forget_4 : decode cX7_forget 4 = .ok (.istore_n 1, 1) := by decide +kernel
theorem dX7_forget_5 : decode cX7_forget 5 = .ok (.aload_n 0, 1) := by decide +kernel
theorem dX7_forget_6 : decode cX7_forget 6 = .ok (.iconst 0, 1) := by decide +kernel
theorem dX7_forget_7 : decode cX7_forget 7 = .ok (.putfield 99, 3) := by decide +kernel
theorem dX7_forget_10 : decode cX7_forget 10 = .ok (.iload_n 1, 1) := by decide +kernel
theorem dX7_forget_11 : decode cX7_forget 11 = .ok (.ireturn, 1) := by decide +kernel
theorem dX7_drawOf_0 : decode cX7_drawOf 0 = .ok (.aload_n 0, 1) := by decide +kernel
theorem dX7_drawOf_1 : decode cX7_drawOf 1 = .ok (.ldc2_w 224, 3) := by decide +kernel
theorem dX7_drawOf_4 : decode cX7_drawOf 4 = .ok (.aload_n 0, 1) := by decide +kernel
theorem dX7_drawOf_5 : decode cX7_drawOf 5 = .ok (.getfield 226, 3) := by decide +kernel
theorem dX7_drawOf_8 : decode cX7_drawOf 8 = .ok (.lmul, 1) := by decide +kernel
theorem dX7_drawOf_9 : decode cX7_drawOf 9 = .ok (.ldc2_w 230, 3) := by decide +kernel
theorem dX7_drawOf_12 : decode cX7_drawOf 12 = .ok (.ladd, 1) := by decide +kernel
theorem dX7_drawOf_13 : decode cX7_drawOf 13 = .ok (.ldc2_w 232, 3) := by decide +kernel
theorem dX7_drawOf_16 : decode cX7_drawOf 16 = .ok (.lrem, 1) := by decide +kernel
theorem dX7_drawOf_17 : decode cX7_drawOf 17 = .ok (.putfield 226, 3) := by decide +kernel
theorem dX7_drawOf_20 : decode cX7_drawOf 20 = .ok (.aload_n 0, 1) := by decide +kernel
theorem dX7_drawOf_21 : decode cX7_drawOf 21 = .ok (.getfield 226, 3) := by decide +kernel
theorem dX7_drawOf_24 : decode cX7_drawOf 24 = .ok (.ldc2_w 234, 3) := by decide +kernel
theorem dX7_drawOf_27 : decode cX7_drawOf 27 = .ok (.ldiv, 1) := by decide +kernel
theorem dX7_drawOf_28 : decode cX7_drawOf 28 = .ok (.iload_n 1, 1) := by decide +kernel
theorem dX7_drawOf_29 : decode cX7_drawOf 29 = .ok (.i2l, 1) := by decide +kernel
theorem dX7_drawOf_30 : decode cX7_drawOf 30 = .ok (.lrem, 1) := by decide +kernel
theorem dX7_drawOf_31 : decode cX7_drawOf 31 = .ok (.l2i, 1) := by decide +kernel
theorem dX7_drawOf_32 : decode cX7_drawOf 32 = .ok (.ireturn, 1) := by decide +kernel
theorem dX7_drawnNow_0 : decode cX7_drawnNow 0 = .ok (.aload_n 0, 1) := by decide +kernel
theorem dX7_drawnNow_1 : decode cX7_drawnNow 1 = .ok (.iload_n 2, 1) := by decide +kernel
theorem dX7_drawnNow_2 : decode cX7_drawnNow 2 = .ok (.i2l, 1) := by decide +kernel
theorem dX7_drawnNow_3 : decode cX7_drawnNow 3 = .ok (.putfield 226, 3) := by decide +kernel
theorem dX7_drawnNow_6 : decode cX7_drawnNow 6 = .ok (.iconst 0, 1) := by decide +kernel
theorem dX7_drawnNow_7 : decode cX7_drawnNow 7 = .ok (.istore 4, 2) := by decide +kernel
theorem dX7_drawnNow_9 : decode cX7_drawnNow 9 = .ok (.iconst 0, 1) := by decide +kernel
theorem dX7_drawnNow_10 : decode cX7_drawnNow 10 = .ok (.istore 5, 2) := by decide +kernel
theorem dX7_drawnNow_12 : decode cX7_drawnNow 12 = .ok (.iconst 0, 1) := by decide +kernel
theorem dX7_drawnNow_13 : decode cX7_drawnNow 13 = .ok (.istore 6, 2) := by decide +kernel
theorem dX7_drawnNow_15 : decode cX7_drawnNow 15 = .ok (.iload 6, 2) := by decide +kernel
theorem dX7_drawnNow_17 : decode cX7_drawnNow 17 = .ok (.iload_n 1, 1) := by decide +kernel
theorem dX7_drawnNow_18 : decode cX7_drawnNow 18 = .ok (.if_icmp .ge 120, 3) := by decide +kernel
theorem dX7_drawnNow_21 : decode cX7_drawnNow 21 = .ok (.iconst 0, 1) := by decide +kernel
theorem dX7_drawnNow_22 : decode cX7_drawnNow 22 = .ok (.istore 7, 2) := by decide +kernel
theorem dX7_drawnNow_24 : decode cX7_drawnNow 24 = .ok (.iload 7, 2) := by decide +kernel
theorem dX7_drawnNow_26 : decode cX7_drawnNow 26 = .ok (.iconst 4, 1) := by decide +kernel
theorem dX7_drawnNow_27 : decode cX7_drawnNow 27 = .ok (.if_icmp .ge 36, 3) := by decide +kernel
theorem dX7_drawnNow_30 : decode cX7_drawnNow 30 = .ok (.aload_n 0, 1) := by decide +kernel
theorem dX7_drawnNow_31 : decode cX7_drawnNow 31 = .ok (.aload_n 0, 1) := by decide +kernel
theorem dX7_drawnNow_32 : decode cX7_drawnNow 32 = .ok (.getfield 96, 3) := by decide +kernel
theorem dX7_drawnNow_35 : decode cX7_drawnNow 35 = .ok (.invokevirtual 236, 3) := by decide +kernel
theorem dX7_drawnNow_38 : decode cX7_drawnNow 38 = .ok (.istore 8, 2) := by decide +kernel
theorem dX7_drawnNow_40 : decode cX7_drawnNow 40 = .ok (.aload_n 0, 1) := by decide +kernel
theorem dX7_drawnNow_41 : decode cX7_drawnNow 41 = .ok (.getfield 45, 3) := by decide +kernel
theorem dX7_drawnNow_44 : decode cX7_drawnNow 44 = .ok (.iload 7, 2) := by decide +kernel
theorem dX7_drawnNow_46 : decode cX7_drawnNow 46 = .ok (.iconst 2, 1) := by decide +kernel
theorem dX7_drawnNow_47 : decode cX7_drawnNow 47 = .ok (.iload 8, 2) := by decide +kernel
theorem dX7_drawnNow_49 : decode cX7_drawnNow 49 = .ok (.imul, 1) := by decide +kernel
theorem dX7_drawnNow_50 : decode cX7_drawnNow 50 = .ok (.aload_n 0, 1) := by decide +kernel
theorem dX7_drawnNow_51 : decode cX7_drawnNow 51 = .ok (.iconst 2, 1) := by decide +kernel
theorem dX7_drawnNow_52 : decode cX7_drawnNow 52 = .ok (.invokevirtual 236, 3) := by decide +kernel
theorem dX7_drawnNow_55 : decode cX7_drawnNow 55 = .ok (.iadd, 1) := by decide +kernel
theorem dX7_drawnNow_56 : decode cX7_drawnNow 56 = .ok (.iastore, 1) := by decide +kernel
theorem dX7_drawnNow_57 : decode cX7_drawnNow 57 = .ok (.iinc 7 1, 3) := by decide +kernel
theorem dX7_drawnNow_60 : decode cX7_drawnNow 60 = .ok (.goto (-36), 3) := by decide +kernel
theorem dX7_drawnNow_63 : decode cX7_drawnNow 63 = .ok (.aload_n 0, 1) := by decide +kernel
theorem dX7_drawnNow_64 : decode cX7_drawnNow 64 = .ok (.sipush 256, 3) := by decide +kernel
theorem dX7_drawnNow_67 : decode cX7_drawnNow 67 = .ok (.invokevirtual 236, 3) := by decide +kernel
theorem dX7_drawnNow_70 : decode cX7_drawnNow 70 = .ok (.istore 7, 2) := by decide +kernel
theorem dX7_drawnNow_72 : decode cX7_drawnNow 72 = .ok (.iload 7, 2) := by decide +kernel
theorem dX7_drawnNow_74 : decode cX7_drawnNow 74 = .ok (.istore 8, 2) := by decide +kernel
theorem dX7_drawnNow_76 : decode cX7_drawnNow 76 = .ok (.iconst 0, 1) := by decide +kernel
theorem dX7_drawnNow_77 : decode cX7_drawnNow 77 = .ok (.istore 9, 2) := by decide +kernel
theorem dX7_drawnNow_79 : decode cX7_drawnNow 79 = .ok (.iload 9, 2) := by decide +kernel
theorem dX7_drawnNow_81 : decode cX7_drawnNow 81 = .ok (.iconst 4, 1) := by decide +kernel
theorem dX7_drawnNow_82 : decode cX7_drawnNow 82 = .ok (.if_icmp .ge 26, 3) := by decide +kernel
theorem dX7_drawnNow_85 : decode cX7_drawnNow 85 = .ok (.aload_n 0, 1) := by decide +kernel
theorem dX7_drawnNow_86 : decode cX7_drawnNow 86 = .ok (.aload_n 0, 1) := by decide +kernel
theorem dX7_drawnNow_87 : decode cX7_drawnNow 87 = .ok (.getfield 45, 3) := by decide +kernel
theorem dX7_drawnNow_90 : decode cX7_drawnNow 90 = .ok (.iload 9, 2) := by decide +kernel
theorem dX7_drawnNow_92 : decode cX7_drawnNow 92 = .ok (.iaload, 1) := by decide +kernel
theorem dX7_drawnNow_93 : decode cX7_drawnNow 93 = .ok (.iload 8, 2) := by decide +kernel
theorem dX7_drawnNow_95 : decode cX7_drawnNow 95 = .ok (.bipush 8, 2) := by decide +kernel
theorem dX7_drawnNow_97 : decode cX7_drawnNow 97 = .ok (.invokevirtual 134, 3) := by decide +kernel
theorem dX7_drawnNow_100 : decode cX7_drawnNow 100 = .ok (.istore 8, 2) := by decide +kernel
theorem dX7_drawnNow_102 : decode cX7_drawnNow 102 = .ok (.iinc 9 1, 3) := by decide +kernel
theorem dX7_drawnNow_105 : decode cX7_drawnNow 105 = .ok (.goto (-26), 3) := by decide +kernel
theorem dX7_drawnNow_108 : decode cX7_drawnNow 108 = .ok (.iload 4, 2) := by decide +kernel
theorem dX7_drawnNow_110 : decode cX7_drawnNow 110 = .ok (.iload 8, 2) := by decide +kernel
theorem dX7_drawnNow_112 : decode cX7_drawnNow 112 = .ok (.iadd, 1) := by decide +kernel
theorem dX7_drawnNow_113 : decode cX7_drawnNow 113 = .ok (.istore 4, 2) := by decide +kernel
theorem dX7_drawnNow_115 : decode cX7_drawnNow 115 = .ok (.iload 5, 2) := by decide +kernel
theorem dX7_drawnNow_117 : decode cX7_drawnNow 117 = .ok (.iload 8, 2) := by decide +kernel
theorem dX7_drawnNow_119 : decode cX7_drawnNow 119 = .ok (.iload 7, 2) := by decide +kernel
theorem dX7_drawnNow_121 : decode cX7_drawnNow 121 = .ok (.if_icmp .ne 7, 3) := by decide +kernel
theorem dX7_drawnNow_124 : decode cX7_drawnNow 124 = .ok (.iconst 1, 1) := by decide +kernel
theorem dX7_drawnNow_125 : decode cX7_drawnNow 125 = .ok (.goto 4, 3) := by decide +kernel
theorem dX7_drawnNow_128 : decode cX7_drawnNow 128 = .ok (.iconst 0, 1) := by decide +kernel
theorem dX7_drawnNow_129 : decode cX7_drawnNow 129 = .ok (.iadd, 1) := by decide +kernel
theorem dX7_drawnNow_130 : decode cX7_drawnNow 130 = .ok (.istore 5, 2) := by decide +kernel
theorem dX7_drawnNow_132 : decode cX7_drawnNow 132 = .ok (.iinc 6 1, 3) := by decide +kernel
theorem dX7_drawnNow_135 : decode cX7_drawnNow 135 = .ok (.goto (-120), 3) := by decide +kernel
theorem dX7_drawnNow_138 : decode cX7_drawnNow 138 = .ok (.iload_n 3, 1) := by decide +kernel
theorem dX7_drawnNow_139 : decode cX7_drawnNow 139 = .ok (.ifCond .ne 8, 3) := by decide +kernel
theorem dX7_drawnNow_142 : decode cX7_drawnNow 142 = .ok (.iload 4, 2) := by decide +kernel
theorem dX7_drawnNow_144 : decode cX7_drawnNow 144 = .ok (.goto 18, 3) := by decide +kernel
theorem dX7_drawnNow_147 : decode cX7_drawnNow 147 = .ok (.iload_n 3, 1) := by decide +kernel
theorem dX7_drawnNow_148 : decode cX7_drawnNow 148 = .ok (.iconst 1, 1) := by decide +kernel
theorem dX7_drawnNow_149 : decode cX7_drawnNow 149 = .ok (.if_icmp .ne 8, 3) := by decide +kernel
theorem dX7_drawnNow_152 : decode cX7_drawnNow 152 = .ok (.iload 5, 2) := by decide +kernel
theorem dX7_drawnNow_154 : decode cX7_drawnNow 154 = .ok (.goto 8, 3) := by decide +kernel
theorem dX7_drawnNow_157 : decode cX7_drawnNow 157 = .ok (.aload_n 0, 1) := by decide +kernel
theorem dX7_drawnNow_158 : decode cX7_drawnNow 158 = .ok (.getfield 226, 3) := by decide +kernel
theorem dX7_drawnNow_161 : decode cX7_drawnNow 161 = .ok (.l2i, 1) := by decide +kernel
theorem dX7_drawnNow_162 : decode cX7_drawnNow 162 = .ok (.ireturn, 1) := by decide +kernel
theorem dX7_drawn_0 : decode cX7_drawn 0 = .ok (.iload_n 1, 1) := by decide +kernel
theorem dX7_drawn_1 : decode cX7_drawn 1 = .ok (.iconst 1, 1) := by decide +kernel
theorem dX7_drawn_2 : decode cX7_drawn 2 = .ok (.bipush 30, 2) := by decide +kernel
theorem dX7_drawn_4 : decode cX7_drawn 4 = .ok (.invokestatic 69, 3) := by decide +kernel
theorem dX7_drawn_7 : decode cX7_drawn 7 = .ok (.ifCond .eq 16, 3) := by decide +kernel
theorem dX7_drawn_10 : decode cX7_drawn 10 = .ok (.iload_n 2, 1) := by decide +kernel
theorem dX7_drawn_11 : decode cX7_drawn 11 = .ok (.ifCond .lt 12, 3) := by decide +kernel
theorem dX7_drawn_14 : decode cX7_drawn 14 = .ok (.iload_n 3, 1) := by decide +kernel
theorem dX7_drawn_15 : decode cX7_drawn 15 = .ok (.iconst 0, 1) := by decide +kernel
theorem dX7_drawn_16 : decode cX7_drawn 16 = .ok (.iconst 2, 1) := by decide +kernel
theorem dX7_drawn_17 : decode cX7_drawn 17 = .ok (.invokestatic 69, 3) := by decide +kernel
theorem dX7_drawn_20 : decode cX7_drawn 20 = .ok (.ifCond .ne 6, 3) := by decide +kernel
theorem dX7_drawn_23 : decode cX7_drawn 23 = .ok (.bipush (-102), 2) := by decide +kernel
theorem dX7_drawn_25 : decode cX7_drawn 25 = .ok (.ireturn, 1) := by decide +kernel
theorem dX7_drawn_26 : decode cX7_drawn 26 = .ok (.aload_n 0, 1) := by decide +kernel
theorem dX7_drawn_27 : decode cX7_drawn 27 = .ok (.getfield 96, 3) := by decide +kernel
theorem dX7_drawn_30 : decode cX7_drawn 30 = .ok (.ifCond .le 13, 3) := by decide +kernel
theorem dX7_drawn_33 : decode cX7_drawn 33 = .ok (.aload_n 0, 1) := by decide +kernel
theorem dX7_drawn_34 : decode cX7_drawn 34 = .ok (.iload_n 1, 1) := by decide +kernel
theorem dX7_drawn_35 : decode cX7_drawn 35 = .ok (.iload_n 2, 1) := by decide +kernel
theorem dX7_drawn_36 : decode cX7_drawn 36 = .ok (.iload_n 3, 1) := by decide +kernel
theorem dX7_drawn_37 : decode cX7_drawn 37 = .ok (.invokevirtual 239, 3) := by decide +kernel
theorem dX7_drawn_40 : decode cX7_drawn 40 = .ok (.goto 5, 3) := by decide +kernel
theorem dX7_drawn_43 : decode cX7_drawn 43 = .ok (.bipush (-103), 2) := by decide +kernel
theorem dX7_drawn_45 : decode cX7_drawn 45 = .ok (.ireturn, 1) := by decide +kernel
theorem dX7_copy_0 : decode cX7_copy 0 = .ok (.iconst 0, 1) := by decide +kernel
theorem dX7_copy_1 : decode cX7_copy 1 = .ok (.istore_n 3, 1) := by decide +kernel
theorem dX7_copy_2 : decode cX7_copy 2 = .ok (.iload_n 3, 1) := by decide +kernel
theorem dX7_copy_3 : decode cX7_copy 3 = .ok (.iload_n 2, 1) := by decide +kernel
theorem dX7_copy_4 : decode cX7_copy 4 = .ok (.if_icmp .ge 15, 3) := by decide +kernel
theorem dX7_copy_7 : decode cX7_copy 7 = .ok (.aload_n 1, 1) := by decide +kernel
theorem dX7_copy_8 : decode cX7_copy 8 = .ok (.iload_n 3, 1) := by decide +kernel
theorem dX7_copy_9 : decode cX7_copy 9 = .ok (.aload_n 0, 1) := by decide +kernel
theorem dX7_copy_10 : decode cX7_copy 10 = .ok (.iload_n 3, 1) := by decide +kernel
theorem dX7_copy_11 : decode cX7_copy 11 = .ok (.iaload, 1) := by decide +kernel
theorem dX7_copy_12 : decode cX7_copy 12 = .ok (.iastore, 1) := by decide +kernel
theorem dX7_copy_13 : decode cX7_copy 13 = .ok (.iinc 3 1, 3) := by decide +kernel
theorem dX7_copy_16 : decode cX7_copy 16 = .ok (.goto (-14), 3) := by decide +kernel
theorem dX7_copy_19 : decode cX7_copy 19 = .ok (.return_, 1) := by decide +kernel
theorem dX7_image_0 : decode cX7_image 0 = .ok (.aload_n 0, 1) := by decide +kernel
theorem dX7_image_1 : decode cX7_image 1 = .ok (.getfield 96, 3) := by decide +kernel
theorem dX7_image_4 : decode cX7_image 4 = .ok (.ifCond .ne 6, 3) := by decide +kernel
theorem dX7_image_7 : decode cX7_image 7 = .ok (.bipush (-103), 2) := by decide +kernel
theorem dX7_image_9 : decode cX7_image 9 = .ok (.ireturn, 1) := by decide +kernel
theorem dX7_image_10 : decode cX7_image 10 = .ok (.aload_n 0, 1) := by decide +kernel
theorem dX7_image_11 : decode cX7_image 11 = .ok (.aload_n 0, 1) := by decide +kernel
theorem dX7_image_12 : decode cX7_image 12 = .ok (.getfield 102, 3) := by decide +kernel
theorem dX7_image_15 : decode cX7_image 15 = .ok (.putfield 242, 3) := by decide +kernel
theorem dX7_image_18 : decode cX7_image 18 = .ok (.aload_n 0, 1) := by decide +kernel
theorem dX7_image_19 : decode cX7_image 19 = .ok (.aload_n 0, 1) := by decide +kernel
theorem dX7_image_20 : decode cX7_image 20 = .ok (.getfield 96, 3) := by decide +kernel
theorem dX7_image_23 : decode cX7_image 23 = .ok (.putfield 245, 3) := by decide +kernel
theorem dX7_image_26 : decode cX7_image 26 = .ok (.aload_n 0, 1) := by decide +kernel
theorem dX7_image_27 : decode cX7_image 27 = .ok (.aload_n 0, 1) := by decide +kernel
theorem dX7_image_28 : decode cX7_image 28 = .ok (.getfield 99, 3) := by decide +kernel
theorem dX7_image_31 : decode cX7_image 31 = .ok (.putfield 248, 3) := by decide +kernel
theorem dX7_image_34 : decode cX7_image 34 = .ok (.aload_n 0, 1) := by decide +kernel
theorem dX7_image_35 : decode cX7_image 35 = .ok (.getfield 7, 3) := by decide +kernel
theorem dX7_image_38 : decode cX7_image 38 = .ok (.aload_n 0, 1) := by decide +kernel
theorem dX7_image_39 : decode cX7_image 39 = .ok (.getfield 48, 3) := by decide +kernel
theorem dX7_image_42 : decode cX7_image 42 = .ok (.bipush 6, 2) := by decide +kernel
theorem dX7_image_44 : decode cX7_image 44 = .ok (.invokestatic 251, 3) := by decide +kernel
theorem dX7_image_47 : decode cX7_image 47 = .ok (.aload_n 0, 1) := by decide +kernel
theorem dX7_image_48 : decode cX7_image 48 = .ok (.getfield 13, 3) := by decide +kernel
theorem dX7_image_51 : decode cX7_image 51 = .ok (.aload_n 0, 1) := by decide +kernel
theorem dX7_image_52 : decode cX7_image 52 = .ok (.getfield 51, 3) := by decide +kernel
theorem dX7_image_55 : decode cX7_image 55 = .ok (.bipush 12, 2) := by decide +kernel
theorem dX7_image_57 : decode cX7_image 57 = .ok (.invokestatic 251, 3) := by decide +kernel
theorem dX7_image_60 : decode cX7_image 60 = .ok (.aload_n 0, 1) := by decide +kernel
theorem dX7_image_61 : decode cX7_image 61 = .ok (.getfield 16, 3) := by decide +kernel
theorem dX7_image_64 : decode cX7_image 64 = .ok (.aload_n 0, 1) := by decide +kernel
theorem dX7_image_65 : decode cX7_image 65 = .ok (.getfield 54, 3) := by decide +kernel
theorem dX7_image_68 : decode cX7_image 68 = .ok (.iconst 3, 1) := by decide +kernel
theorem dX7_image_69 : decode cX7_image 69 = .ok (.invokestatic 251, 3) := by decide +kernel
theorem dX7_image_72 : decode cX7_image 72 = .ok (.aload_n 0, 1) := by decide +kernel
theorem dX7_image_73 : decode cX7_image 73 = .ok (.getfield 19, 3) := by decide +kernel
theorem dX7_image_76 : decode cX7_image 76 = .ok (.aload_n 0, 1) := by decide +kernel
theorem dX7_image_77 : decode cX7_image 77 = .ok (.getfield 57, 3) := by decide +kernel
theorem dX7_image_80 : decode cX7_image 80 = .ok (.bipush 48, 2) := by decide +kernel
theorem dX7_image_82 : decode cX7_image 82 = .ok (.invokestatic 251, 3) := by decide +kernel
theorem dX7_image_85 : decode cX7_image 85 = .ok (.aload_n 0, 1) := by decide +kernel
theorem dX7_image_86 : decode cX7_image 86 = .ok (.getfield 22, 3) := by decide +kernel
theorem dX7_image_89 : decode cX7_image 89 = .ok (.aload_n 0, 1) := by decide +kernel
theorem dX7_image_90 : decode cX7_image 90 = .ok (.getfield 60, 3) := by decide +kernel
theorem dX7_image_93 : decode cX7_image 93 = .ok (.bipush 6, 2) := by decide +kernel
theorem dX7_image_95 : decode cX7_image 95 = .ok (.invokestatic 251, 3) := by decide +kernel
theorem dX7_image_98 : decode cX7_image 98 = .ok (.aload_n 0, 1) := by decide +kernel
theorem dX7_image_99 : decode cX7_image 99 = .ok (.getfield 25, 3) := by decide +kernel
theorem dX7_image_102 : decode cX7_image 102 = .ok (.aload_n 0, 1) := by decide +kernel
theorem dX7_image_103 : decode cX7_image 103 = .ok (.getfield 63, 3) := by decide +kernel
theorem dX7_image_106 : decode cX7_image 106 = .ok (.bipush 6, 2) := by decide +kernel
theorem dX7_image_108 : decode cX7_image 108 = .ok (.invokestatic 251, 3) := by decide +kernel
theorem dX7_image_111 : decode cX7_image 111 = .ok (.iconst 0, 1) := by decide +kernel
theorem dX7_image_112 : decode cX7_image 112 = .ok (.istore_n 1, 1) := by decide +kernel
theorem dX7_image_113 : decode cX7_image 113 = .ok (.iload_n 1, 1) := by decide +kernel
theorem dX7_image_114 : decode cX7_image 114 = .ok (.bipush 6, 2) := by decide +kernel
theorem dX7_image_116 : decode cX7_image 116 = .ok (.if_icmp .ge 21, 3) := by decide +kernel
theorem dX7_image_119 : decode cX7_image 119 = .ok (.aload_n 0, 1) := by decide +kernel
theorem dX7_image_120 : decode cX7_image 120 = .ok (.getfield 66, 3) := by decide +kernel
theorem dX7_image_123 : decode cX7_image 123 = .ok (.iload_n 1, 1) := by decide +kernel
theorem dX7_image_124 : decode cX7_image 124 = .ok (.aload_n 0, 1) := by decide +kernel
theorem dX7_image_125 : decode cX7_image 125 = .ok (.getfield 28, 3) := by decide +kernel
theorem dX7_image_128 : decode cX7_image 128 = .ok (.iload_n 1, 1) := by decide +kernel
theorem dX7_image_129 : decode cX7_image 129 = .ok (.baload, 1) := by decide +kernel
theorem dX7_image_130 : decode cX7_image 130 = .ok (.bastore, 1) := by decide +kernel
theorem dX7_image_131 : decode cX7_image 131 = .ok (.iinc 1 1, 3) := by decide +kernel
theorem dX7_image_134 : decode cX7_image 134 = .ok (.goto (-21), 3) := by decide +kernel
theorem dX7_image_137 : decode cX7_image 137 = .ok (.aload_n 0, 1) := by decide +kernel
theorem dX7_image_138 : decode cX7_image 138 = .ok (.getfield 96, 3) := by decide +kernel
theorem dX7_image_141 : decode cX7_image 141 = .ok (.ireturn, 1) := by decide +kernel
theorem dX7_restore_0 : decode cX7_restore 0 = .ok (.aload_n 0, 1) := by decide +kernel
theorem dX7_restore_1 : decode cX7_restore 1 = .ok (.getfield 242, 3) := by decide +kernel
theorem dX7_restore_4 : decode cX7_restore 4 = .ok (.ifCond .eq 14, 3) := by decide +kernel
theorem dX7_restore_7 : decode cX7_restore 7 = .ok (.aload_n 0, 1) := by decide +kernel
theorem dX7_restore_8 : decode cX7_restore 8 = .ok (.getfield 242, 3) := by decide +kernel
theorem dX7_restore_11 : decode cX7_restore 11 = .ok (.aload_n 0, 1) := by decide +kernel
theorem dX7_restore_12 : decode cX7_restore 12 = .ok (.getfield 102, 3) := by decide +kernel
theorem dX7_restore_15 : decode cX7_restore 15 = .ok (.if_icmp .eq 6, 3) := by decide +kernel
theorem dX7_restore_18 : decode cX7_restore 18 = .ok (.bipush (-103), 2) := by decide +kernel
theorem dX7_restore_20 : decode cX7_restore 20 = .ok (.ireturn, 1) := by decide +kernel
theorem dX7_restore_21 : decode cX7_restore 21 = .ok (.aload_n 0, 1) := by decide +kernel
theorem dX7_restore_22 : decode cX7_restore 22 = .ok (.aload_n 0, 1) := by decide +kernel
theorem dX7_restore_23 : decode cX7_restore 23 = .ok (.getfield 245, 3) := by decide +kernel
theorem dX7_restore_26 : decode cX7_restore 26 = .ok (.putfield 96, 3) := by decide +kernel
theorem dX7_restore_29 : decode cX7_restore 29 = .ok (.aload_n 0, 1) := by decide +kernel
theorem dX7_restore_30 : decode cX7_restore 30 = .ok (.aload_n 0, 1) := by decide +kernel
theorem dX7_restore_31 : decode cX7_restore 31 = .ok (.getfield 248, 3) := by decide +kernel
theorem dX7_restore_34 : decode cX7_restore 34 = .ok (.putfield 99, 3) := by decide +kernel
theorem dX7_restore_37 : decode cX7_restore 37 = .ok (.aload_n 0, 1) := by decide +kernel
theorem dX7_restore_38 : decode cX7_restore 38 = .ok (.getfield 48, 3) := by decide +kernel
theorem dX7_restore_41 : decode cX7_restore 41 = .ok (.aload_n 0, 1) := by decide +kernel
theorem dX7_restore_42 : decode cX7_restore 42 = .ok (.getfield 7, 3) := by decide +kernel
theorem dX7_restore_45 : decode cX7_restore 45 = .ok (.bipush 6, 2) := by decide +kernel
theorem dX7_restore_47 : decode cX7_restore 47 = .ok (.invokestatic 251, 3) := by decide +kernel
theorem dX7_restore_50 : decode cX7_restore 50 = .ok (.aload_n 0, 1) := by decide +kernel
theorem dX7_restore_51 : decode cX7_restore 51 = .ok (.getfield 51, 3) := by decide +kernel
theorem dX7_restore_54 : decode cX7_restore 54 = .ok (.aload_n 0, 1) := by decide +kernel
theorem dX7_restore_55 : decode cX7_restore 55 = .ok (.getfield 13, 3) := by decide +kernel
theorem dX7_restore_58 : decode cX7_restore 58 = .ok (.bipush 12, 2) := by decide +kernel
theorem dX7_restore_60 : decode cX7_restore 60 = .ok (.invokestatic 251, 3) := by decide +kernel
theorem dX7_restore_63 : decode cX7_restore 63 = .ok (.aload_n 0, 1) := by decide +kernel
theorem dX7_restore_64 : decode cX7_restore 64 = .ok (.getfield 54, 3) := by decide +kernel
theorem dX7_restore_67 : decode cX7_restore 67 = .ok (.aload_n 0, 1) := by decide +kernel
theorem dX7_restore_68 : decode cX7_restore 68 = .ok (.getfield 16, 3) := by decide +kernel
theorem dX7_restore_71 : decode cX7_restore 71 = .ok (.iconst 3, 1) := by decide +kernel
theorem dX7_restore_72 : decode cX7_restore 72 = .ok (.invokestatic 251, 3) := by decide +kernel
theorem dX7_restore_75 : decode cX7_restore 75 = .ok (.aload_n 0, 1) := by decide +kernel
theorem dX7_restore_76 : decode cX7_restore 76 = .ok (.getfield 57, 3) := by decide +kernel
theorem dX7_restore_79 : decode cX7_restore 79 = .ok (.aload_n 0, 1) := by decide +kernel
theorem dX7_restore_80 : decode cX7_restore 80 = .ok (.getfield 19, 3) := by decide +kernel
theorem dX7_restore_83 : decode cX7_restore 83 = .ok (.bipush 48, 2) := by decide +kernel
theorem dX7_restore_85 : decode cX7_restore 85 = .ok (.invokestatic 251, 3) := by decide +kernel
theorem dX7_restore_88 : decode cX7_restore 88 = .ok (.aload_n 0, 1) := by decide +kernel
theorem dX7_restore_89 : decode cX7_restore 89 = .ok (.getfield 60, 3) := by decide +kernel
theorem dX7_restore_92 : decode cX7_restore 92 = .ok (.aload_n 0, 1) := by decide +kernel
theorem dX7_restore_93 : decode cX7_restore 93 = .ok (.getfield 22, 3) := by decide +kernel
theorem dX7_restore_96 : decode cX7_restore 96 = .ok (.bipush 6, 2) := by decide +kernel
theorem dX7_restore_98 : decode cX7_restore 98 = .ok (.invokestatic 251, 3) := by decide +kernel
theorem dX7_restore_101 : decode cX7_restore 101 = .ok (.aload_n 0, 1) := by decide +kernel
theorem dX7_restore_102 : decode cX7_restore 102 = .ok (.getfield 63, 3) := by decide +kernel
theorem dX7_restore_105 : decode cX7_restore 105 = .ok (.aload_n 0, 1) := by decide +kernel
theorem dX7_restore_106 : decode cX7_restore 106 = .ok (.getfield 25, 3) := by decide +kernel
theorem dX7_restore_109 : decode cX7_restore 109 = .ok (.bipush 6, 2) := by decide +kernel
theorem dX7_restore_111 : decode cX7_restore 111 = .ok (.invokestatic 251, 3) := by decide +kernel
theorem dX7_restore_114 : decode cX7_restore 114 = .ok (.iconst 0, 1) := by decide +kernel
theorem dX7_restore_115 : decode cX7_restore 115 = .ok (.istore_n 1, 1) := by decide +kernel
theorem dX7_restore_116 : decode cX7_restore 116 = .ok (.iload_n 1, 1) := by decide +kernel
theorem dX7_restore_117 : decode cX7_restore 117 = .ok (.bipush 6, 2) := by decide +kernel
theorem dX7_restore_119 : decode cX7_restore 119 = .ok (.if_icmp .ge 21, 3) := by decide +kernel
theorem dX7_restore_122 : decode cX7_restore 122 = .ok (.aload_n 0, 1) := by decide +kernel
theorem dX7_restore_123 : decode cX7_restore 123 = .ok (.getfield 28, 3) := by decide +kernel
theorem dX7_restore_126 : decode cX7_restore 126 = .ok (.iload_n 1, 1) := by decide +kernel
theorem dX7_restore_127 : decode cX7_restore 127 = .ok (.aload_n 0, 1) := by decide +kernel
theorem dX7_restore_128 : decode cX7_restore 128 = .ok (.getfield 66, 3) := by decide +kernel
theorem dX7_restore_131 : decode cX7_restore 131 = .ok (.iload_n 1, 1) := by decide +kernel
theorem dX7_restore_132 : decode cX7_restore 132 = .ok (.baload, 1) := by decide +kernel
theorem dX7_restore_133 : decode cX7_restore 133 = .ok (.bastore, 1) := by decide +kernel
theorem dX7_restore_134 : decode cX7_restore 134 = .ok (.iinc 1 1, 3) := by decide +kernel
theorem dX7_restore_137 : decode cX7_restore 137 = .ok (.goto (-21), 3) := by decide +kernel
theorem dX7_restore_140 : decode cX7_restore 140 = .ok (.aload_n 0, 1) := by decide +kernel
theorem dX7_restore_141 : decode cX7_restore 141 = .ok (.getfield 96, 3) := by decide +kernel
theorem dX7_restore_144 : decode cX7_restore 144 = .ok (.ireturn, 1) := by decide +kernel
theorem dX7_classes_0 : decode cX7_classes 0 = .ok (.iconst 0, 1) := by decide +kernel
theorem dX7_classes_1 : decode cX7_classes 1 = .ok (.istore_n 1, 1) := by decide +kernel
theorem dX7_classes_2 : decode cX7_classes 2 = .ok (.iconst 0, 1) := by decide +kernel
theorem dX7_classes_3 : decode cX7_classes 3 = .ok (.istore_n 2, 1) := by decide +kernel
theorem dX7_classes_4 : decode cX7_classes 4 = .ok (.iload_n 2, 1) := by decide +kernel
theorem dX7_classes_5 : decode cX7_classes 5 = .ok (.aload_n 0, 1) := by decide +kernel
theorem dX7_classes_6 : decode cX7_classes 6 = .ok (.getfield 96, 3) := by decide +kernel
theorem dX7_classes_9 : decode cX7_classes 9 = .ok (.if_icmp .ge 26, 3) := by decide +kernel
theorem dX7_classes_12 : decode cX7_classes 12 = .ok (.iload_n 1, 1) := by decide +kernel
theorem dX7_classes_13 : decode cX7_classes 13 = .ok (.aload_n 0, 1) := by decide +kernel
theorem dX7_classes_14 : decode cX7_classes 14 = .ok (.iload_n 2, 1) := by decide +kernel
theorem dX7_classes_15 : decode cX7_classes 15 = .ok (.invokevirtual 163, 3) := by decide +kernel
theorem dX7_classes_18 : decode cX7_classes 18 = .ok (.iload_n 2, 1) := by decide +kernel
theorem dX7_classes_19 : decode cX7_classes 19 = .ok (.if_icmp .ne 7, 3) := by decide +kernel
theorem dX7_classes_22 : decode cX7_classes 22 = .ok (.iconst 1, 1) := by decide +kernel
theorem dX7_classes_23 : decode cX7_classes 23 = .ok (.goto 4, 3) := by decide +kernel
theorem dX7_classes_26 : decode cX7_classes 26 = .ok (.iconst 0, 1) := by decide +kernel
theorem dX7_classes_27 : decode cX7_classes 27 = .ok (.iadd, 1) := by decide +kernel
theorem dX7_classes_28 : decode cX7_classes 28 = .ok (.istore_n 1, 1) := by decide +kernel
theorem dX7_classes_29 : decode cX7_classes 29 = .ok (.iinc 2 1, 3) := by decide +kernel
theorem dX7_classes_32 : decode cX7_classes 32 = .ok (.goto (-28), 3) := by decide +kernel
theorem dX7_classes_35 : decode cX7_classes 35 = .ok (.iload_n 1, 1) := by decide +kernel
theorem dX7_classes_36 : decode cX7_classes 36 = .ok (.ireturn, 1) := by decide +kernel
theorem dX7_core_0 : decode cX7_core 0 = .ok (.iconst 0, 1) := by decide +kernel
theorem dX7_core_1 : decode cX7_core 1 = .ok (.istore_n 1, 1) := by decide +kernel
theorem dX7_core_2 : decode cX7_core 2 = .ok (.iconst 0, 1) := by decide +kernel
theorem dX7_core_3 : decode cX7_core 3 = .ok (.istore_n 2, 1) := by decide +kernel
theorem dX7_core_4 : decode cX7_core 4 = .ok (.iload_n 2, 1) := by decide +kernel
theorem dX7_core_5 : decode cX7_core 5 = .ok (.aload_n 0, 1) := by decide +kernel
theorem dX7_core_6 : decode cX7_core 6 = .ok (.getfield 96, 3) := by decide +kernel
theorem dX7_core_9 : decode cX7_core 9 = .ok (.if_icmp .ge 29, 3) := by decide +kernel
theorem dX7_core_12 : decode cX7_core 12 = .ok (.iload_n 1, 1) := by decide +kernel
theorem dX7_core_13 : decode cX7_core 13 = .ok (.aload_n 0, 1) := by decide +kernel
theorem dX7_core_14 : decode cX7_core 14 = .ok (.iload_n 2, 1) := by decide +kernel
theorem dX7_core_15 : decode cX7_core 15 = .ok (.invokevirtual 160, 3) := by decide +kernel
theorem dX7_core_18 : decode cX7_core 18 = .ok (.iload_n 2, 1) := by decide +kernel
theorem dX7_core_19 : decode cX7_core 19 = .ok (.invokestatic 144, 3) := by decide +kernel
theorem dX7_core_22 : decode cX7_core 22 = .ok (.ifCond .eq 7, 3) := by decide +kernel
theorem dX7_core_25 : decode cX7_core 25 = .ok (.iconst 1, 1) := by decide +kernel
theorem dX7_core_26 : decode cX7_core 26 = .ok (.goto 4, 3) := by decide +kernel
theorem dX7_core_29 : decode cX7_core 29 = .ok (.iconst 0, 1) := by decide +kernel
theorem dX7_core_30 : decode cX7_core 30 = .ok (.iadd, 1) := by decide +kernel
theorem dX7_core_31 : decode cX7_core 31 = .ok (.istore_n 1, 1) := by decide +kernel
theorem dX7_core_32 : decode cX7_core 32 = .ok (.iinc 2 1, 3) := by decide +kernel
theorem dX7_core_35 : decode cX7_core 35 = .ok (.goto (-31), 3) := by decide +kernel
theorem dX7_core_38 : decode cX7_core 38 = .ok (.iload_n 1, 1) := by decide +kernel
theorem dX7_core_39 : decode cX7_core 39 = .ok (.ireturn, 1) := by decide +kernel
theorem dX7_howMany_0 : decode cX7_howMany 0 = .ok (.iload_n 1, 1) := by decide +kernel
theorem dX7_howMany_1 : decode cX7_howMany 1 = .ok (.tableswitch 94 0 6 #[43, 48, 53, 58, 79, 84, 89], 43) := by decide +kernel
theorem dX7_howMany_44 : decode cX7_howMany 44 = .ok (.aload_n 0, 1) := by decide +kernel
theorem dX7_howMany_45 : decode cX7_howMany 45 = .ok (.getfield 96, 3) := by decide +kernel
theorem dX7_howMany_48 : decode cX7_howMany 48 = .ok (.ireturn, 1) := by decide +kernel
theorem dX7_howMany_49 : decode cX7_howMany 49 = .ok (.aload_n 0, 1) := by decide +kernel
theorem dX7_howMany_50 : decode cX7_howMany 50 = .ok (.invokevirtual 255, 3) := by decide +kernel
theorem dX7_howMany_53 : decode cX7_howMany 53 = .ok (.ireturn, 1) := by decide +kernel
theorem dX7_howMany_54 : decode cX7_howMany 54 = .ok (.aload_n 0, 1) := by decide +kernel
theorem dX7_howMany_55 : decode cX7_howMany 55 = .ok (.invokevirtual 258, 3) := by decide +kernel
theorem dX7_howMany_58 : decode cX7_howMany 58 = .ok (.ireturn, 1) := by decide +kernel
theorem dX7_howMany_59 : decode cX7_howMany 59 = .ok (.aload_n 0, 1) := by decide +kernel
theorem dX7_howMany_60 : decode cX7_howMany 60 = .ok (.getfield 16, 3) := by decide +kernel
theorem dX7_howMany_63 : decode cX7_howMany 63 = .ok (.iconst 0, 1) := by decide +kernel
theorem dX7_howMany_64 : decode cX7_howMany 64 = .ok (.iaload, 1) := by decide +kernel
theorem dX7_howMany_65 : decode cX7_howMany 65 = .ok (.aload_n 0, 1) := by decide +kernel
theorem dX7_howMany_66 : decode cX7_howMany 66 = .ok (.getfield 16, 3) := by decide +kernel
theorem dX7_howMany_69 : decode cX7_howMany 69 = .ok (.iconst 1, 1) := by decide +kernel
theorem dX7_howMany_70 : decode cX7_howMany 70 = .ok (.iaload, 1) := by decide +kernel
theorem dX7_howMany_71 : decode cX7_howMany 71 = .ok (.iadd, 1) := by decide +kernel
theorem dX7_howMany_72 : decode cX7_howMany 72 = .ok (.aload_n 0, 1) := by decide +kernel
theorem dX7_howMany_73 : decode cX7_howMany 73 = .ok (.getfield 16, 3) := by decide +kernel
theorem dX7_howMany_76 : decode cX7_howMany 76 = .ok (.iconst 2, 1) := by decide +kernel
theorem dX7_howMany_77 : decode cX7_howMany 77 = .ok (.iaload, 1) := by decide +kernel
theorem dX7_howMany_78 : decode cX7_howMany 78 = .ok (.iadd, 1) := by decide +kernel
theorem dX7_howMany_79 : decode cX7_howMany 79 = .ok (.ireturn, 1) := by decide +kernel
theorem dX7_howMany_80 : decode cX7_howMany 80 = .ok (.aload_n 0, 1) := by decide +kernel
theorem dX7_howMany_81 : decode cX7_howMany 81 = .ok (.getfield 99, 3) := by decide +kernel
theorem dX7_howMany_84 : decode cX7_howMany 84 = .ok (.ireturn, 1) := by decide +kernel
theorem dX7_howMany_85 : decode cX7_howMany 85 = .ok (.aload_n 0, 1) := by decide +kernel
theorem dX7_howMany_86 : decode cX7_howMany 86 = .ok (.getfield 73, 3) := by decide +kernel
theorem dX7_howMany_89 : decode cX7_howMany 89 = .ok (.ireturn, 1) := by decide +kernel
theorem dX7_howMany_90 : decode cX7_howMany 90 = .ok (.aload_n 0, 1) := by decide +kernel
theorem dX7_howMany_91 : decode cX7_howMany 91 = .ok (.getfield 102, 3) := by decide +kernel
theorem dX7_howMany_94 : decode cX7_howMany 94 = .ok (.ireturn, 1) := by decide +kernel
theorem dX7_howMany_95 : decode cX7_howMany 95 = .ok (.bipush (-102), 2) := by decide +kernel
theorem dX7_howMany_97 : decode cX7_howMany 97 = .ok (.ireturn, 1) := by decide +kernel
theorem dX7_count_0 : decode cX7_count 0 = .ok (.aload_n 0, 1) := by decide +kernel
theorem dX7_count_1 : decode cX7_count 1 = .ok (.iload_n 1, 1) := by decide +kernel
theorem dX7_count_2 : decode cX7_count 2 = .ok (.invokevirtual 261, 3) := by decide +kernel
theorem dX7_count_5 : decode cX7_count 5 = .ok (.ireturn, 1) := by decide +kernel
theorem dX7_mix_0 : decode cX7_mix 0 = .ok (.aload_n 0, 1) := by decide +kernel
theorem dX7_mix_1 : decode cX7_mix 1 = .ok (.ldc2_w 264, 3) := by decide +kernel
theorem dX7_mix_4 : decode cX7_mix 4 = .ok (.aload_n 0, 1) := by decide +kernel
theorem dX7_mix_5 : decode cX7_mix 5 = .ok (.getfield 266, 3) := by decide +kernel
theorem dX7_mix_8 : decode cX7_mix 8 = .ok (.lmul, 1) := by decide +kernel
theorem dX7_mix_9 : decode cX7_mix 9 = .ok (.lload_n 1, 1) := by decide +kernel
theorem dX7_mix_10 : decode cX7_mix 10 = .ok (.ladd, 1) := by decide +kernel
theorem dX7_mix_11 : decode cX7_mix 11 = .ok (.putfield 266, 3) := by decide +kernel
theorem dX7_mix_14 : decode cX7_mix 14 = .ok (.return_, 1) := by decide +kernel
theorem dX7_mixWord_0 : decode cX7_mixWord 0 = .ok (.iconst 0, 1) := by decide +kernel
theorem dX7_mixWord_1 : decode cX7_mixWord 1 = .ok (.istore_n 2, 1) := by decide +kernel
theorem dX7_mixWord_2 : decode cX7_mixWord 2 = .ok (.iload_n 2, 1) := by decide +kernel
theorem dX7_mixWord_3 : decode cX7_mixWord 3 = .ok (.aload_n 0, 1) := by decide +kernel
theorem dX7_mixWord_4 : decode cX7_mixWord 4 = .ok (.getfield 16, 3) := by decide +kernel
theorem dX7_mixWord_7 : decode cX7_mixWord 7 = .ok (.iload_n 1, 1) := by decide +kernel
theorem dX7_mixWord_8 : decode cX7_mixWord 8 = .ok (.iaload, 1) := by decide +kernel
theorem dX7_mixWord_9 : decode cX7_mixWord 9 = .ok (.if_icmp .ge 28, 3) := by decide +kernel
theorem dX7_mixWord_12 : decode cX7_mixWord 12 = .ok (.aload_n 0, 1) := by decide +kernel
theorem dX7_mixWord_13 : decode cX7_mixWord 13 = .ok (.aload_n 0, 1) := by decide +kernel
theorem dX7_mixWord_14 : decode cX7_mixWord 14 = .ok (.getfield 19, 3) := by decide +kernel
theorem dX7_mixWord_17 : decode cX7_mixWord 17 = .ok (.bipush 16, 2) := by decide +kernel
theorem dX7_mixWord_19 : decode cX7_mixWord 19 = .ok (.iload_n 1, 1) := by decide +kernel
theorem dX7_mixWord_20 : decode cX7_mixWord 20 = .ok (.imul, 1) := by decide +kernel
theorem dX7_mixWord_21 : decode cX7_mixWord 21 = .ok (.iload_n 2, 1) := by decide +kernel
theorem dX7_mixWord_22 : decode cX7_mixWord 22 = .ok (.iadd, 1) := by decide +kernel
theorem dX7_mixWord_23 : decode cX7_mixWord 23 = .ok (.iaload, 1) := by decide +kernel
theorem dX7_mixWord_24 : decode cX7_mixWord 24 = .ok (.invokestatic 178, 3) := by decide +kernel
theorem dX7_mixWord_27 : decode cX7_mixWord 27 = .ok (.i2l, 1) := by decide +kernel
theorem dX7_mixWord_28 : decode cX7_mixWord 28 = .ok (.invokevirtual 269, 3) := by decide +kernel
theorem dX7_mixWord_31 : decode cX7_mixWord 31 = .ok (.iinc 2 1, 3) := by decide +kernel
theorem dX7_mixWord_34 : decode cX7_mixWord 34 = .ok (.goto (-32), 3) := by decide +kernel
theorem dX7_mixWord_37 : decode cX7_mixWord 37 = .ok (.aload_n 0, 1) := by decide +kernel
theorem dX7_mixWord_38 : decode cX7_mixWord 38 = .ok (.aload_n 0, 1) := by decide +kernel
theorem dX7_mixWord_39 : decode cX7_mixWord 39 = .ok (.iload_n 1, 1) := by decide +kernel
theorem dX7_mixWord_40 : decode cX7_mixWord 40 = .ok (.invokevirtual 215, 3) := by decide +kernel
theorem dX7_mixWord_43 : decode cX7_mixWord 43 = .ok (.i2l, 1) := by decide +kernel
theorem dX7_mixWord_44 : decode cX7_mixWord 44 = .ok (.invokevirtual 269, 3) := by decide +kernel
theorem dX7_mixWord_47 : decode cX7_mixWord 47 = .ok (.iconst 0, 1) := by decide +kernel
theorem dX7_mixWord_48 : decode cX7_mixWord 48 = .ok (.istore_n 2, 1) := by decide +kernel
theorem dX7_mixWord_49 : decode cX7_mixWord 49 = .ok (.iload_n 2, 1) := by decide +kernel
theorem dX7_mixWord_50 : decode cX7_mixWord 50 = .ok (.iconst 4, 1) := by decide +kernel
theorem dX7_mixWord_51 : decode cX7_mixWord 51 = .ok (.if_icmp .ge 20, 3) := by decide +kernel
theorem dX7_mixWord_54 : decode cX7_mixWord 54 = .ok (.aload_n 0, 1) := by decide +kernel
theorem dX7_mixWord_55 : decode cX7_mixWord 55 = .ok (.aload_n 0, 1) := by decide +kernel
theorem dX7_mixWord_56 : decode cX7_mixWord 56 = .ok (.iload_n 1, 1) := by decide +kernel
theorem dX7_mixWord_57 : decode cX7_mixWord 57 = .ok (.iload_n 2, 1) := by decide +kernel
theorem dX7_mixWord_58 : decode cX7_mixWord 58 = .ok (.invokevirtual 187, 3) := by decide +kernel
theorem dX7_mixWord_61 : decode cX7_mixWord 61 = .ok (.i2l, 1) := by decide +kernel
theorem dX7_mixWord_62 : decode cX7_mixWord 62 = .ok (.invokevirtual 269, 3) := by decide +kernel
theorem dX7_mixWord_65 : decode cX7_mixWord 65 = .ok (.iinc 2 1, 3) := by decide +kernel
theorem dX7_mixWord_68 : decode cX7_mixWord 68 = .ok (.goto (-19), 3) := by decide +kernel
theorem dX7_mixWord_71 : decode cX7_mixWord 71 = .ok (.aload_n 0, 1) := by decide +kernel
theorem dX7_mixWord_72 : decode cX7_mixWord 72 = .ok (.aload_n 0, 1) := by decide +kernel
theorem dX7_mixWord_73 : decode cX7_mixWord 73 = .ok (.iload_n 1, 1) := by decide +kernel
theorem dX7_mixWord_74 : decode cX7_mixWord 74 = .ok (.iconst 0, 1) := by decide +kernel
theorem dX7_mixWord_75 : decode cX7_mixWord 75 = .ok (.bipush 6, 2) := by decide +kernel
theorem dX7_mixWord_77 : decode cX7_mixWord 77 = .ok (.invokevirtual 184, 3) := by decide +kernel
theorem dX7_mixWord_80 : decode cX7_mixWord 80 = .ok (.i2l, 1) := by decide +kernel
theorem dX7_mixWord_81 : decode cX7_mixWord 81 = .ok (.invokevirtual 269, 3) := by decide +kernel
theorem dX7_mixWord_84 : decode cX7_mixWord 84 = .ok (.aload_n 0, 1) := by decide +kernel
theorem dX7_mixWord_85 : decode cX7_mixWord 85 = .ok (.aload_n 0, 1) := by decide +kernel
theorem dX7_mixWord_86 : decode cX7_mixWord 86 = .ok (.iload_n 1, 1) := by decide +kernel
theorem dX7_mixWord_87 : decode cX7_mixWord 87 = .ok (.iconst 5, 1) := by decide +kernel
theorem dX7_mixWord_88 : decode cX7_mixWord 88 = .ok (.bipush 6, 2) := by decide +kernel
theorem dX7_mixWord_90 : decode cX7_mixWord 90 = .ok (.invokevirtual 184, 3) := by decide +kernel
theorem dX7_mixWord_93 : decode cX7_mixWord 93 = .ok (.i2l, 1) := by decide +kernel
theorem dX7_mixWord_94 : decode cX7_mixWord 94 = .ok (.invokevirtual 269, 3) := by decide +kernel
theorem dX7_mixWord_97 : decode cX7_mixWord 97 = .ok (.return_, 1) := by decide +kernel
theorem dX7_digest_0 : decode cX7_digest 0 = .ok (.aload_n 0, 1) := by decide +kernel
theorem dX7_digest_1 : decode cX7_digest 1 = .ok (.ldc2_w 273, 3) := by decide +kernel
theorem dX7_digest_4 : decode cX7_digest 4 = .ok (.putfield 266, 3) := by decide +kernel
theorem dX7_digest_7 : decode cX7_digest 7 = .ok (.iconst 0, 1) := by decide +kernel
theorem dX7_digest_8 : decode cX7_digest 8 = .ok (.istore_n 1, 1) := by decide +kernel
theorem dX7_digest_9 : decode cX7_digest 9 = .ok (.iload_n 1, 1) := by decide +kernel
theorem dX7_digest_10 : decode cX7_digest 10 = .ok (.aload_n 0, 1) := by decide +kernel
theorem dX7_digest_11 : decode cX7_digest 11 = .ok (.getfield 96, 3) := by decide +kernel
theorem dX7_digest_14 : decode cX7_digest 14 = .ok (.if_icmp .ge 34, 3) := by decide +kernel
theorem dX7_digest_17 : decode cX7_digest 17 = .ok (.iconst 0, 1) := by decide +kernel
theorem dX7_digest_18 : decode cX7_digest 18 = .ok (.istore_n 2, 1) := by decide +kernel
theorem dX7_digest_19 : decode cX7_digest 19 = .ok (.iload_n 2, 1) := by decide +kernel
theorem dX7_digest_20 : decode cX7_digest 20 = .ok (.bipush 8, 2) := by decide +kernel
theorem dX7_digest_22 : decode cX7_digest 22 = .ok (.if_icmp .ge 20, 3) := by decide +kernel
theorem dX7_digest_25 : decode cX7_digest 25 = .ok (.aload_n 0, 1) := by decide +kernel
theorem dX7_digest_26 : decode cX7_digest 26 = .ok (.aload_n 0, 1) := by decide +kernel
theorem dX7_digest_27 : decode cX7_digest 27 = .ok (.iload_n 1, 1) := by decide +kernel
theorem dX7_digest_28 : decode cX7_digest 28 = .ok (.iload_n 2, 1) := by decide +kernel
theorem dX7_digest_29 : decode cX7_digest 29 = .ok (.invokevirtual 172, 3) := by decide +kernel
theorem dX7_digest_32 : decode cX7_digest 32 = .ok (.i2l, 1) := by decide +kernel
theorem dX7_digest_33 : decode cX7_digest 33 = .ok (.invokevirtual 269, 3) := by decide +kernel
theorem dX7_digest_36 : decode cX7_digest 36 = .ok (.iinc 2 1, 3) := by decide +kernel
theorem dX7_digest_39 : decode cX7_digest 39 = .ok (.goto (-20), 3) := by decide +kernel
theorem dX7_digest_42 : decode cX7_digest 42 = .ok (.iinc 1 1, 3) := by decide +kernel
theorem dX7_digest_45 : decode cX7_digest 45 = .ok (.goto (-36), 3) := by decide +kernel
theorem dX7_digest_48 : decode cX7_digest 48 = .ok (.iconst 0, 1) := by decide +kernel
theorem dX7_digest_49 : decode cX7_digest 49 = .ok (.istore_n 1, 1) := by decide +kernel
theorem dX7_digest_50 : decode cX7_digest 50 = .ok (.iload_n 1, 1) := by decide +kernel
theorem dX7_digest_51 : decode cX7_digest 51 = .ok (.iconst 3, 1) := by decide +kernel
theorem dX7_digest_52 : decode cX7_digest 52 = .ok (.if_icmp .ge 21, 3) := by decide +kernel
theorem dX7_digest_55 : decode cX7_digest 55 = .ok (.aload_n 0, 1) := by decide +kernel
theorem dX7_digest_56 : decode cX7_digest 56 = .ok (.getfield 96, 3) := by decide +kernel
theorem dX7_digest_59 : decode cX7_digest 59 = .ok (.ifCond .le 14, 3) := by decide +kernel
theorem dX7_digest_62 : decode cX7_digest 62 = .ok (.aload_n 0, 1) := by decide +kernel
theorem dX7_digest_63 : decode cX7_digest 63 = .ok (.iload_n 1, 1) := by decide +kernel
theorem dX7_digest_64 : decode cX7_digest 64 = .ok (.invokevirtual 275, 3) := by decide +kernel
theorem dX7_digest_67 : decode cX7_digest 67 = .ok (.iinc 1 1, 3) := by decide +kernel
theorem dX7_digest_70 : decode cX7_digest 70 = .ok (.goto (-20), 3) := by decide +kernel
theorem dX7_digest_73 : decode cX7_digest 73 = .ok (.iconst 0, 1) := by decide +kernel
theorem dX7_digest_74 : decode cX7_digest 74 = .ok (.istore_n 1, 1) := by decide +kernel
theorem dX7_digest_75 : decode cX7_digest 75 = .ok (.iload_n 1, 1) := by decide +kernel
theorem dX7_digest_76 : decode cX7_digest 76 = .ok (.aload_n 0, 1) := by decide +kernel
theorem dX7_digest_77 : decode cX7_digest 77 = .ok (.getfield 73, 3) := by decide +kernel
theorem dX7_digest_80 : decode cX7_digest 80 = .ok (.if_icmp .ge 20, 3) := by decide +kernel
theorem dX7_digest_83 : decode cX7_digest 83 = .ok (.aload_n 0, 1) := by decide +kernel
theorem dX7_digest_84 : decode cX7_digest 84 = .ok (.aload_n 0, 1) := by decide +kernel
theorem dX7_digest_85 : decode cX7_digest 85 = .ok (.getfield 32, 3) := by decide +kernel
theorem dX7_digest_88 : decode cX7_digest 88 = .ok (.iload_n 1, 1) := by decide +kernel
theorem dX7_digest_89 : decode cX7_digest 89 = .ok (.iaload, 1) := by decide +kernel
theorem dX7_digest_90 : decode cX7_digest 90 = .ok (.i2l, 1) := by decide +kernel
theorem dX7_digest_91 : decode cX7_digest 91 = .ok (.invokevirtual 269, 3) := by decide +kernel
theorem dX7_digest_94 : decode cX7_digest 94 = .ok (.iinc 1 1, 3) := by decide +kernel
theorem dX7_digest_97 : decode cX7_digest 97 = .ok (.goto (-22), 3) := by decide +kernel
theorem dX7_digest_100 : decode cX7_digest 100 = .ok (.iconst 0, 1) := by decide +kernel
theorem dX7_digest_101 : decode cX7_digest 101 = .ok (.istore_n 1, 1) := by decide +kernel
theorem dX7_digest_102 : decode cX7_digest 102 = .ok (.iload_n 1, 1) := by decide +kernel
theorem dX7_digest_103 : decode cX7_digest 103 = .ok (.bipush 7, 2) := by decide +kernel
theorem dX7_digest_105 : decode cX7_digest 105 = .ok (.if_icmp .ge 19, 3) := by decide +kernel
theorem dX7_digest_108 : decode cX7_digest 108 = .ok (.aload_n 0, 1) := by decide +kernel
theorem dX7_digest_109 : decode cX7_digest 109 = .ok (.aload_n 0, 1) := by decide +kernel
theorem dX7_digest_110 : decode cX7_digest 110 = .ok (.iload_n 1, 1) := by decide +kernel
theorem dX7_digest_111 : decode cX7_digest 111 = .ok (.invokevirtual 261, 3) := by decide +kernel
theorem dX7_digest_114 : decode cX7_digest 114 = .ok (.i2l, 1) := by decide +kernel
theorem dX7_digest_115 : decode cX7_digest 115 = .ok (.invokevirtual 269, 3) := by decide +kernel
theorem dX7_digest_118 : decode cX7_digest 118 = .ok (.iinc 1 1, 3) := by decide +kernel
theorem dX7_digest_121 : decode cX7_digest 121 = .ok (.goto (-19), 3) := by decide +kernel
theorem dX7_digest_124 : decode cX7_digest 124 = .ok (.aload_n 0, 1) := by decide +kernel
theorem dX7_digest_125 : decode cX7_digest 125 = .ok (.getfield 266, 3) := by decide +kernel
theorem dX7_digest_128 : decode cX7_digest 128 = .ok (.lreturn, 1) := by decide +kernel
end
section
theorem dL_law_0 : decode cL_law 0 = .ok (.new 7, 3) := by decide +kernel
theorem dL_law_3 : decode cL_law 3 = .ok (.dup, 1) := by decide +kernel
theorem dL_law_4 : decode cL_law 4 = .ok (.invokespecial 9, 3) := by decide +kernel
theorem dL_law_7 : decode cL_law 7 = .ok (.astore_n 1, 1) := by decide +kernel
theorem dL_law_8 : decode cL_law 8 = .ok (.new 10, 3) := by decide +kernel
theorem dL_law_11 : decode cL_law 11 = .ok (.dup, 1) := by decide +kernel
theorem dL_law_12 : decode cL_law 12 = .ok (.invokespecial 12, 3) := by decide +kernel
theorem dL_law_15 : decode cL_law 15 = .ok (.astore_n 2, 1) := by decide +kernel
theorem dL_law_16 : decode cL_law 16 = .ok (.iconst 0, 1) := by decide +kernel
theorem dL_law_17 : decode cL_law 17 = .ok (.istore_n 3, 1) := by decide +kernel
theorem dL_law_18 : decode cL_law 18 = .ok (.iload_n 3, 1) := by decide +kernel
theorem dL_law_19 : decode cL_law 19 = .ok (.aload_n 0, 1) := by decide +kernel
theorem dL_law_20 : decode cL_law 20 = .ok (.arraylength, 1) := by decide +kernel
theorem dL_law_21 : decode cL_law 21 = .ok (.iconst 4, 1) := by decide +kernel
theorem dL_law_22 : decode cL_law 22 = .ok (.isub, 1) := by decide +kernel
theorem dL_law_23 : decode cL_law 23 = .ok (.if_icmp .gt 890, 3) := by decide +kernel
theorem dL_law_26 : decode cL_law 26 = .ok (.aload_n 0, 1) := by decide +kernel
theorem dL_law_27 : decode cL_law 27 = .ok (.iload_n 3, 1) := by decide +kernel
theorem dL_law_28 : decode cL_law 28 = .ok (.iaload, 1) := by decide +kernel
theorem dL_law_29 : decode cL_law 29 = .ok (.bipush 31, 2) := by decide +kernel
theorem dL_law_31 : decode cL_law 31 = .ok (.iand, 1) := by decide +kernel
theorem dL_law_32 : decode cL_law 32 = .ok (.tableswitch 875 0 25 #[120, 143, 156, 169, 182, 205, 238, 271, 304, 347, 380, 423, 446, 479, 502, 545, 578, 621, 664, 697, 756, 769, 812, 825, 838, 861], 120) := by decide +kernel
theorem dL_law_152 : decode cL_law 152 = .ok (.aload_n 1, 1) := by decide +kernel
theorem dL_law_153 : decode cL_law 153 = .ok (.aload_n 0, 1) := by decide +kernel
theorem dL_law_154 : decode cL_law 154 = .ok (.iload_n 3, 1) := by decide +kernel
theorem dL_law_155 : decode cL_law 155 = .ok (.iconst 1, 1) := by decide +kernel
theorem dL_law_156 : decode cL_law 156 = .ok (.iadd, 1) := by decide +kernel
theorem dL_law_157 : decode cL_law 157 = .ok (.iaload, 1) := by decide +kernel
theorem dL_law_158 : decode cL_law 158 = .ok (.invokevirtual 13, 3) := by decide +kernel
theorem dL_law_161 : decode cL_law 161 = .ok (.aload_n 2, 1) := by decide +kernel
theorem dL_law_162 : decode cL_law 162 = .ok (.aload_n 0, 1) := by decide +kernel
theorem dL_law_163 : decode cL_law 163 = .ok (.iload_n 3, 1) := by decide +kernel
theorem dL_law_164 : decode cL_law 164 = .ok (.iconst 1, 1) := by decide +kernel
theorem dL_law_165 : decode cL_law 165 = .ok (.iadd, 1) := by decide +kernel
theorem dL_law_166 : decode cL_law 166 = .ok (.iaload, 1) := by decide +kernel
theorem dL_law_167 : decode cL_law 167 = .ok (.invokevirtual 17, 3) := by decide +kernel
theorem dL_law_170 : decode cL_law 170 = .ok (.if_icmp .eq 737, 3) := by decide +kernel
theorem dL_law_173 : decode cL_law 173 = .ok (.iconst 0, 1) := by decide +kernel
theorem dL_law_174 : decode cL_law 174 = .ok (.ireturn, 1) := by decide +kernel
theorem dL_law_175 : decode cL_law 175 = .ok (.aload_n 1, 1) := by decide +kernel
theorem dL_law_176 : decode cL_law 176 = .ok (.invokevirtual 18, 3) := by decide +kernel
theorem dL_law_179 : decode cL_law 179 = .ok (.aload_n 2, 1) := by decide +kernel
theorem dL_law_180 : decode cL_law 180 = .ok (.invokevirtual 22, 3) := by decide +kernel
theorem dL_law_183 : decode cL_law 183 = .ok (.if_icmp .eq 724, 3) := by decide +kernel
theorem dL_law_186 : decode cL_law 186 = .ok (.iconst 0, 1) := by decide +kernel
theorem dL_law_187 : decode cL_law 187 = .ok (.ireturn, 1) := by decide +kernel
theorem dL_law_188 : decode cL_law 188 = .ok (.aload_n 1, 1) := by decide +kernel
theorem dL_law_189 : decode cL_law 189 = .ok (.invokevirtual 23, 3) := by decide +kernel
theorem dL_law_192 : decode cL_law 192 = .ok (.aload_n 2, 1) := by decide +kernel
theorem dL_law_193 : decode cL_law 193 = .ok (.invokevirtual 26, 3) := by decide +kernel
theorem dL_law_196 : decode cL_law 196 = .ok (.if_icmp .eq 711, 3) := by decide +kernel
theorem dL_law_199 : decode cL_law 199 = .ok (.iconst 0, 1) := by decide +kernel
theorem dL_law_200 : decode cL_law 200 = .ok (.ireturn, 1) := by decide +kernel
theorem dL_law_201 : decode cL_law 201 = .ok (.aload_n 1, 1) := by decide +kernel
theorem dL_law_202 : decode cL_law 202 = .ok (.invokevirtual 27, 3) := by decide +kernel
theorem dL_law_205 : decode cL_law 205 = .ok (.aload_n 2, 1) := by decide +kernel
theorem dL_law_206 : decode cL_law 206 = .ok (.invokevirtual 30, 3) := by decide +kernel
theorem dL_law_209 : decode cL_law 209 = .ok (.if_icmp .eq 698, 3) := by decide +kernel
theorem dL_law_212 : decode cL_law 212 = .ok (.iconst 0, 1) := by decide +kernel
theorem dL_law_213 : decode cL_law 213 = .ok (.ireturn, 1) := by decide +kernel
theorem dL_law_214 : decode cL_law 214 = .ok (.aload_n 1, 1) := by decide +kernel
theorem dL_law_215 : decode cL_law 215 = .ok (.aload_n 0, 1) := by decide +kernel
theorem dL_law_216 : decode cL_law 216 = .ok (.iload_n 3, 1) := by decide +kernel
theorem dL_law_217 : decode cL_law 217 = .ok (.iconst 1, 1) := by decide +kernel
theorem dL_law_218 : decode cL_law 218 = .ok (.iadd, 1) := by decide +kernel
theorem dL_law_219 : decode cL_law 219 = .ok (.iaload, 1) := by decide +kernel
theorem dL_law_220 : decode cL_law 220 = .ok (.invokevirtual 31, 3) := by decide +kernel
theorem dL_law_223 : decode cL_law 223 = .ok (.aload_n 2, 1) := by decide +kernel
theorem dL_law_224 : decode cL_law 224 = .ok (.aload_n 0, 1) := by decide +kernel
theorem dL_law_225 : decode cL_law 225 = .ok (.iload_n 3, 1) := by decide +kernel
theorem dL_law_226 : decode cL_law 226 = .ok (.iconst 1, 1) := by decide +kernel
theorem dL_law_227 : decode cL_law 227 = .ok (.iadd, 1) := by decide +kernel
theorem dL_law_228 : decode cL_law 228 = .ok (.iaload, 1) := by decide +kernel
theorem dL_law_229 : decode cL_law 229 = .ok (.invokevirtual 34, 3) := by decide +kernel
theorem dL_law_232 : decode cL_law 232 = .ok (.if_icmp .eq 675, 3) := by decide +kernel
theorem dL_law_235 : decode cL_law 235 = .ok (.iconst 0, 1) := by decide +kernel
theorem dL_law_236 : decode cL_law 236 = .ok (.ireturn, 1) := by decide +kernel
theorem dL_law_237 : decode cL_law 237 = .ok (.aload_n 1, 1) := by decide +kernel
theorem dL_law_238 : decode cL_law 238 = .ok (.aload_n 0, 1) := by decide +kernel
theorem dL_law_239 : decode cL_law 239 = .ok (.iload_n 3, 1) := by decide +kernel
theorem dL_law_240 : decode cL_law 240 = .ok (.iconst 1, 1) := by decide +kernel
theorem dL_law_241 : decode cL_law 241 = .ok (.iadd, 1) := by decide +kernel
theorem dL_law_242 : decode cL_law 242 = .ok (.iaload, 1) := by decide +kernel
theorem dL_law_243 : decode cL_law 243 = .ok (.aload_n 0, 1) := by decide +kernel
theorem dL_law_244 : decode cL_law 244 = .ok (.iload_n 3, 1) := by decide +kernel
theorem dL_law_245 : decode cL_law 245 = .ok (.iconst 2, 1) := by decide +kernel
theorem dL_law_246 : decode cL_law 246 = .ok (.iadd, 1) := by decide +kernel
theorem dL_law_247 : decode cL_law 247 = .ok (.iaload, 1) := by decide +kernel
theorem dL_law_248 : decode cL_law 248 = .ok (.invokevirtual 35, 3) := by decide +kernel
theorem dL_law_251 : decode cL_law 251 = .ok (.aload_n 2, 1) := by decide +kernel
theorem dL_law_252 : decode cL_law 252 = .ok (.aload_n 0, 1) := by decide +kernel
theorem dL_law_253 : decode cL_law 253 = .ok (.iload_n 3, 1) := by decide +kernel
theorem dL_law_254 : decode cL_law 254 = .ok (.iconst 1, 1) := by decide +kernel
theorem dL_law_255 : decode cL_law 255 = .ok (.iadd, 1) := by decide +kernel
theorem dL_law_256 : decode cL_law 256 = .ok (.iaload, 1) := by decide +kernel
theorem dL_law_257 : decode cL_law 257 = .ok (.aload_n 0, 1) := by decide +kernel
theorem dL_law_258 : decode cL_law 258 = .ok (.iload_n 3, 1) := by decide +kernel
theorem dL_law_259 : decode cL_law 259 = .ok (.iconst 2, 1) := by decide +kernel
theorem dL_law_260 : decode cL_law 260 = .ok (.iadd, 1) := by decide +kernel
theorem dL_law_261 : decode cL_law 261 = .ok (.iaload, 1) := by decide +kernel
theorem dL_law_262 : decode cL_law 262 = .ok (.invokevirtual 39, 3) := by decide +kernel
theorem dL_law_265 : decode cL_law 265 = .ok (.if_icmp .eq 642, 3) := by decide +kernel
theorem dL_law_268 : decode cL_law 268 = .ok (.iconst 0, 1) := by decide +kernel
theorem dL_law_269 : decode cL_law 269 = .ok (.ireturn, 1) := by decide +kernel
theorem dL_law_270 : decode cL_law 270 = .ok (.aload_n 1, 1) := by decide +kernel
theorem dL_law_271 : decode cL_law 271 = .ok (.aload_n 0, 1) := by decide +kernel
theorem dL_law_272 : decode cL_law 272 = .ok (.iload_n 3, 1) := by decide +kernel
theorem dL_law_273 : decode cL_law 273 = .ok (.iconst 1, 1) := by decide +kernel
theorem dL_law_274 : decode cL_law 274 = .ok (.iadd, 1) := by decide +kernel
theorem dL_law_275 : decode cL_law 275 = .ok (.iaload, 1) := by decide +kernel
theorem dL_law_276 : decode cL_law 276 = .ok (.aload_n 0, 1) := by decide +kernel
theorem dL_law_277 : decode cL_law 277 = .ok (.iload_n 3, 1) := by decide +kernel
theorem dL_law_278 : decode cL_law 278 = .ok (.iconst 2, 1) := by decide +kernel
theorem dL_law_279 : decode cL_law 279 = .ok (.iadd, 1) := by decide +kernel
theorem dL_law_280 : decode cL_law 280 = .ok (.iaload, 1) := by decide +kernel
theorem dL_law_281 : decode cL_law 281 = .ok (.invokevirtual 40, 3) := by decide +kernel
theorem dL_law_284 : decode cL_law 284 = .ok (.aload_n 2, 1) := by decide +kernel
theorem dL_law_285 : decode cL_law 285 = .ok (.aload_n 0, 1) := by decide +kernel
theorem dL_law_286 : decode cL_law 286 = .ok (.iload_n 3, 1) := by decide +kernel
theorem dL_law_287 : decode cL_law 287 = .ok (.iconst 1, 1) := by decide +kernel
theorem dL_law_288 : decode cL_law 288 = .ok (.iadd, 1) := by decide +kernel
theorem dL_law_289 : decode cL_law 289 = .ok (.iaload, 1) := by decide +kernel
theorem dL_law_290 : decode cL_law 290 = .ok (.aload_n 0, 1) := by decide +kernel
theorem dL_law_291 : decode cL_law 291 = .ok (.iload_n 3, 1) := by decide +kernel
theorem dL_law_292 : decode cL_law 292 = .ok (.iconst 2, 1) := by decide +kernel
theorem dL_law_293 : decode cL_law 293 = .ok (.iadd, 1) := by decide +kernel
theorem dL_law_294 : decode cL_law 294 = .ok (.iaload, 1) := by decide +kernel
theorem dL_law_295 : decode cL_law 295 = .ok (.invokevirtual 43, 3) := by decide +kernel
theorem dL_law_298 : decode cL_law 298 = .ok (.if_icmp .eq 609, 3) := by decide +kernel
theorem dL_law_301 : decode cL_law 301 = .ok (.iconst 0, 1) := by decide +kernel
theorem dL_law_302 : decode cL_law 302 = .ok (.ireturn, 1) := by decide +kernel
theorem dL_law_303 : decode cL_law 303 = .ok (.aload_n 1, 1) := by decide +kernel
theorem dL_law_304 : decode cL_law 304 = .ok (.aload_n 0, 1) := by decide +kernel
theorem dL_law_305 : decode cL_law 305 = .ok (.iload_n 3, 1) := by decide +kernel
theorem dL_law_306 : decode cL_law 306 = .ok (.iconst 1, 1) := by decide +kernel
theorem dL_law_307 : decode cL_law 307 = .ok (.iadd, 1) := by decide +kernel
theorem dL_law_308 : decode cL_law 308 = .ok (.iaload, 1) := by decide +kernel
theorem dL_law_309 : decode cL_law 309 = .ok (.aload_n 0, 1) := by decide +kernel
theorem dL_law_310 : decode cL_law 310 = .ok (.iload_n 3, 1) := by decide +kernel
theorem dL_law_311 : decode cL_law 311 = .ok (.iconst 2, 1) := by decide +kernel
theorem dL_law_312 : decode cL_law 312 = .ok (.iadd, 1) := by decide +kernel
theorem dL_law_313 : decode cL_law 313 = .ok (.iaload, 1) := by decide +kernel
theorem dL_law_314 : decode cL_law 314 = .ok (.invokevirtual 44, 3) := by decide +kernel
theorem dL_law_317 : decode cL_law 317 = .ok (.aload_n 2, 1) := by decide +kernel
theorem dL_law_318 : decode cL_law 318 = .ok (.aload_n 0, 1) := by decide +kernel
theorem dL_law_319 : decode cL_law 319 = .ok (.iload_n 3, 1) := by decide +kernel
theorem dL_law_320 : decode cL_law 320 = .ok (.iconst 1, 1) := by decide +kernel
theorem dL_law_321 : decode cL_law 321 = .ok (.iadd, 1) := by decide +kernel
theorem dL_law_322 : decode cL_law 322 = .ok (.iaload, 1) := by decide +kernel
theorem dL_law_323 : decode cL_law 323 = .ok (.aload_n 0, 1) := by decide +kernel
theorem dL_law_324 : decode cL_law 324 = .ok (.iload_n 3, 1) := by decide +kernel
theorem dL_law_325 : decode cL_law 325 = .ok (.iconst 2, 1) := by decide +kernel
theorem dL_law_326 : decode cL_law 326 = .ok (.iadd, 1) := by decide +kernel
theorem dL_law_327 : decode cL_law 327 = .ok (.iaload, 1) := by decide +kernel
theorem dL_law_328 : decode cL_law 328 = .ok (.invokevirtual 47, 3) := by decide +kernel
theorem dL_law_331 : decode cL_law 331 = .ok (.if_icmp .eq 576, 3) := by decide +kernel
theorem dL_law_334 : decode cL_law 334 = .ok (.iconst 0, 1) := by decide +kernel
theorem dL_law_335 : decode cL_law 335 = .ok (.ireturn, 1) := by decide +kernel
theorem dL_law_336 : decode cL_law 336 = .ok (.aload_n 1, 1) := by decide +kernel
theorem dL_law_337 : decode cL_law 337 = .ok (.aload_n 0, 1) := by decide +kernel
theorem dL_law_338 : decode cL_law 338 = .ok (.iload_n 3, 1) := by decide +kernel
theorem dL_law_339 : decode cL_law 339 = .ok (.iconst 1, 1) := by decide +kernel
theorem dL_law_340 : decode cL_law 340 = .ok (.iadd, 1) := by decide +kernel
theorem dL_law_341 : decode cL_law 341 = .ok (.iaload, 1) := by decide +kernel
theorem dL_law_342 : decode cL_law 342 = .ok (.aload_n 0, 1) := by decide +kernel
theorem dL_law_343 : decode cL_law 343 = .ok (.iload_n 3, 1) := by decide +kernel
theorem dL_law_344 : decode cL_law 344 = .ok (.iconst 2, 1) := by decide +kernel
theorem dL_law_345 : decode cL_law 345 = .ok (.iadd, 1) := by decide +kernel
theorem dL_law_346 : decode cL_law 346 = .ok (.iaload, 1) := by decide +kernel
theorem dL_law_347 : decode cL_law 347 = .ok (.aload_n 0, 1) := by decide +kernel
theorem dL_law_348 : decode cL_law 348 = .ok (.iload_n 3, 1) := by decide +kernel
theorem dL_law_349 : decode cL_law 349 = .ok (.iconst 3, 1) := by decide +kernel
theorem dL_law_350 : decode cL_law 350 = .ok (.iadd, 1) := by decide +kernel
theorem dL_law_351 : decode cL_law 351 = .ok (.iaload, 1) := by decide +kernel
theorem dL_law_352 : decode cL_law 352 = .ok (.invokevirtual 48, 3) := by decide +kernel
theorem dL_law_355 : decode cL_law 355 = .ok (.aload_n 2, 1) := by decide +kernel
theorem dL_law_356 : decode cL_law 356 = .ok (.aload_n 0, 1) := by decide +kernel
theorem dL_law_357 : decode cL_law 357 = .ok (.iload_n 3, 1) := by decide +kernel
theorem dL_law_358 : decode cL_law 358 = .ok (.iconst 1, 1) := by decide +kernel
theorem dL_law_359 : decode cL_law 359 = .ok (.iadd, 1) := by decide +kernel
theorem dL_law_360 : decode cL_law 360 = .ok (.iaload, 1) := by decide +kernel
theorem dL_law_361 : decode cL_law 361 = .ok (.aload_n 0, 1) := by decide +kernel
theorem dL_law_362 : decode cL_law 362 = .ok (.iload_n 3, 1) := by decide +kernel
theorem dL_law_363 : decode cL_law 363 = .ok (.iconst 2, 1) := by decide +kernel
theorem dL_law_364 : decode cL_law 364 = .ok (.iadd, 1) := by decide +kernel
theorem dL_law_365 : decode cL_law 365 = .ok (.iaload, 1) := by decide +kernel
theorem dL_law_366 : decode cL_law 366 = .ok (.aload_n 0, 1) := by decide +kernel
theorem dL_law_367 : decode cL_law 367 = .ok (.iload_n 3, 1) := by decide +kernel
theorem dL_law_368 : decode cL_law 368 = .ok (.iconst 3, 1) := by decide +kernel
theorem dL_law_369 : decode cL_law 369 = .ok (.iadd, 1) := by decide +kernel
theorem dL_law_370 : decode cL_law 370 = .ok (.iaload, 1) := by decide +kernel
theorem dL_law_371 : decode cL_law 371 = .ok (.invokevirtual 52, 3) := by decide +kernel
theorem dL_law_374 : decode cL_law 374 = .ok (.if_icmp .eq 533, 3) := by decide +kernel
theorem dL_law_377 : decode cL_law 377 = .ok (.iconst 0, 1) := by decide +kernel
theorem dL_law_378 : decode cL_law 378 = .ok (.ireturn, 1) := by decide +kernel
theorem dL_law_379 : decode cL_law 379 = .ok (.aload_n 1, 1) := by decide +kernel
theorem dL_law_380 : decode cL_law 380 = .ok (.aload_n 0, 1) := by decide +kernel
theorem dL_law_381 : decode cL_law 381 = .ok (.iload_n 3, 1) := by decide +kernel
theorem dL_law_382 : decode cL_law 382 = .ok (.iconst 1, 1) := by decide +kernel
theorem dL_law_383 : decode cL_law 383 = .ok (.iadd, 1) := by decide +kernel
theorem dL_law_384 : decode cL_law 384 = .ok (.iaload, 1) := by decide +kernel
theorem dL_law_385 : decode cL_law 385 = .ok (.aload_n 0, 1) := by decide +kernel
theorem dL_law_386 : decode cL_law 386 = .ok (.iload_n 3, 1) := by decide +kernel
theorem dL_law_387 : decode cL_law 387 = .ok (.iconst 2, 1) := by decide +kernel
theorem dL_law_388 : decode cL_law 388 = .ok (.iadd, 1) := by decide +kernel
theorem dL_law_389 : decode cL_law 389 = .ok (.iaload, 1) := by decide +kernel
theorem dL_law_390 : decode cL_law 390 = .ok (.invokevirtual 53, 3) := by decide +kernel
theorem dL_law_393 : decode cL_law 393 = .ok (.aload_n 2, 1) := by decide +kernel
theorem dL_law_394 : decode cL_law 394 = .ok (.aload_n 0, 1) := by decide +kernel
theorem dL_law_395 : decode cL_law 395 = .ok (.iload_n 3, 1) := by decide +kernel
theorem dL_law_396 : decode cL_law 396 = .ok (.iconst 1, 1) := by decide +kernel
theorem dL_law_397 : decode cL_law 397 = .ok (.iadd, 1) := by decide +kernel
theorem dL_law_398 : decode cL_law 398 = .ok (.iaload, 1) := by decide +kernel
theorem dL_law_399 : decode cL_law 399 = .ok (.aload_n 0, 1) := by decide +kernel
theorem dL_law_400 : decode cL_law 400 = .ok (.iload_n 3, 1) := by decide +kernel
theorem dL_law_401 : decode cL_law 401 = .ok (.iconst 2, 1) := by decide +kernel
theorem dL_law_402 : decode cL_law 402 = .ok (.iadd, 1) := by decide +kernel
theorem dL_law_403 : decode cL_law 403 = .ok (.iaload, 1) := by decide +kernel
theorem dL_law_404 : decode cL_law 404 = .ok (.invokevirtual 56, 3) := by decide +kernel
theorem dL_law_407 : decode cL_law 407 = .ok (.if_icmp .eq 500, 3) := by decide +kernel
theorem dL_law_410 : decode cL_law 410 = .ok (.iconst 0, 1) := by decide +kernel
theorem dL_law_411 : decode cL_law 411 = .ok (.ireturn, 1) := by decide +kernel
theorem dL_law_412 : decode cL_law 412 = .ok (.aload_n 1, 1) := by decide +kernel
theorem dL_law_413 : decode cL_law 413 = .ok (.aload_n 0, 1) := by decide +kernel
theorem dL_law_414 : decode cL_law 414 = .ok (.iload_n 3, 1) := by decide +kernel
theorem dL_law_415 : decode cL_law 415 = .ok (.iconst 1, 1) := by decide +kernel
theorem dL_law_416 : decode cL_law 416 = .ok (.iadd, 1) := by decide +kernel
theorem dL_law_417 : decode cL_law 417 = .ok (.iaload, 1) := by decide +kernel
theorem dL_law_418 : decode cL_law 418 = .ok (.aload_n 0, 1) := by decide +kernel
theorem dL_law_419 : decode cL_law 419 = .ok (.iload_n 3, 1) := by decide +kernel
theorem dL_law_420 : decode cL_law 420 = .ok (.iconst 2, 1) := by decide +kernel
theorem dL_law_421 : decode cL_law 421 = .ok (.iadd, 1) := by decide +kernel
theorem dL_law_422 : decode cL_law 422 = .ok (.iaload, 1) := by decide +kernel
theorem dL_law_423 : decode cL_law 423 = .ok (.aload_n 0, 1) := by decide +kernel
theorem dL_law_424 : decode cL_law 424 = .ok (.iload_n 3, 1) := by decide +kernel
theorem dL_law_425 : decode cL_law 425 = .ok (.iconst 3, 1) := by decide +kernel
theorem dL_law_426 : decode cL_law 426 = .ok (.iadd, 1) := by decide +kernel
theorem dL_law_427 : decode cL_law 427 = .ok (.iaload, 1) := by decide +kernel
theorem dL_law_428 : decode cL_law 428 = .ok (.invokevirtual 57, 3) := by decide +kernel
theorem dL_law_431 : decode cL_law 431 = .ok (.aload_n 2, 1) := by decide +kernel
theorem dL_law_432 : decode cL_law 432 = .ok (.aload_n 0, 1) := by decide +kernel
theorem dL_law_433 : decode cL_law 433 = .ok (.iload_n 3, 1) := by decide +kernel
theorem dL_law_434 : decode cL_law 434 = .ok (.iconst 1, 1) := by decide +kernel
theorem dL_law_435 : decode cL_law 435 = .ok (.iadd, 1) := by decide +kernel
theorem dL_law_436 : decode cL_law 436 = .ok (.iaload, 1) := by decide +kernel
theorem dL_law_437 : decode cL_law 437 = .ok (.aload_n 0, 1) := by decide +kernel
theorem dL_law_438 : decode cL_law 438 = .ok (.iload_n 3, 1) := by decide +kernel
theorem dL_law_439 : decode cL_law 439 = .ok (.iconst 2, 1) := by decide +kernel
theorem dL_law_440 : decode cL_law 440 = .ok (.iadd, 1) := by decide +kernel
theorem dL_law_441 : decode cL_law 441 = .ok (.iaload, 1) := by decide +kernel
theorem dL_law_442 : decode cL_law 442 = .ok (.aload_n 0, 1) := by decide +kernel
theorem dL_law_443 : decode cL_law 443 = .ok (.iload_n 3, 1) := by decide +kernel
theorem dL_law_444 : decode cL_law 444 = .ok (.iconst 3, 1) := by decide +kernel
theorem dL_law_445 : decode cL_law 445 = .ok (.iadd, 1) := by decide +kernel
theorem dL_law_446 : decode cL_law 446 = .ok (.iaload, 1) := by decide +kernel
theorem dL_law_447 : decode cL_law 447 = .ok (.invokevirtual 60, 3) := by decide +kernel
theorem dL_law_450 : decode cL_law 450 = .ok (.if_icmp .eq 457, 3) := by decide +kernel
theorem dL_law_453 : decode cL_law 453 = .ok (.iconst 0, 1) := by decide +kernel
theorem dL_law_454 : decode cL_law 454 = .ok (.ireturn, 1) := by decide +kernel
theorem dL_law_455 : decode cL_law 455 = .ok (.aload_n 1, 1) := by decide +kernel
theorem dL_law_456 : decode cL_law 456 = .ok (.aload_n 0, 1) := by decide +kernel
theorem dL_law_457 : decode cL_law 457 = .ok (.iload_n 3, 1) := by decide +kernel
theorem dL_law_458 : decode cL_law 458 = .ok (.iconst 1, 1) := by decide +kernel
theorem dL_law_459 : decode cL_law 459 = .ok (.iadd, 1) := by decide +kernel
theorem dL_law_460 : decode cL_law 460 = .ok (.iaload, 1) := by decide +kernel
theorem dL_law_461 : decode cL_law 461 = .ok (.invokevirtual 61, 3) := by decide +kernel
theorem dL_law_464 : decode cL_law 464 = .ok (.aload_n 2, 1) := by decide +kernel
theorem dL_law_465 : decode cL_law 465 = .ok (.aload_n 0, 1) := by decide +kernel
theorem dL_law_466 : decode cL_law 466 = .ok (.iload_n 3, 1) := by decide +kernel
theorem dL_law_467 : decode cL_law 467 = .ok (.iconst 1, 1) := by decide +kernel
theorem dL_law_468 : decode cL_law 468 = .ok (.iadd, 1) := by decide +kernel
theorem dL_law_469 : decode cL_law 469 = .ok (.iaload, 1) := by decide +kernel
theorem dL_law_470 : decode cL_law 470 = .ok (.invokevirtual 64, 3) := by decide +kernel
theorem dL_law_473 : decode cL_law 473 = .ok (.if_icmp .eq 434, 3) := by decide +kernel
theorem dL_law_476 : decode cL_law 476 = .ok (.iconst 0, 1) := by decide +kernel
theorem dL_law_477 : decode cL_law 477 = .ok (.ireturn, 1) := by decide +kernel
theorem dL_law_478 : decode cL_law 478 = .ok (.aload_n 1, 1) := by decide +kernel
theorem dL_law_479 : decode cL_law 479 = .ok (.aload_n 0, 1) := by decide +kernel
theorem dL_law_480 : decode cL_law 480 = .ok (.iload_n 3, 1) := by decide +kernel
theorem dL_law_481 : decode cL_law 481 = .ok (.iconst 1, 1) := by decide +kernel
theorem dL_law_482 : decode cL_law 482 = .ok (.iadd, 1) := by decide +kernel
theorem dL_law_483 : decode cL_law 483 = .ok (.iaload, 1) := by decide +kernel
theorem dL_law_484 : decode cL_law 484 = .ok (.aload_n 0, 1) := by decide +kernel
theorem dL_law_485 : decode cL_law 485 = .ok (.iload_n 3, 1) := by decide +kernel
theorem dL_law_486 : decode cL_law 486 = .ok (.iconst 2, 1) := by decide +kernel
theorem dL_law_487 : decode cL_law 487 = .ok (.iadd, 1) := by decide +kernel
theorem dL_law_488 : decode cL_law 488 = .ok (.iaload, 1) := by decide +kernel
theorem dL_law_489 : decode cL_law 489 = .ok (.invokevirtual 65, 3) := by decide +kernel
theorem dL_law_492 : decode cL_law 492 = .ok (.aload_n 2, 1) := by decide +kernel
theorem dL_law_493 : decode cL_law 493 = .ok (.aload_n 0, 1) := by decide +kernel
theorem dL_law_494 : decode cL_law 494 = .ok (.iload_n 3, 1) := by decide +kernel
theorem dL_law_495 : decode cL_law 495 = .ok (.iconst 1, 1) := by decide +kernel
theorem dL_law_496 : decode cL_law 496 = .ok (.iadd, 1) := by decide +kernel
theorem dL_law_497 : decode cL_law 497 = .ok (.iaload, 1) := by decide +kernel
theorem dL_law_498 : decode cL_law 498 = .ok (.aload_n 0, 1) := by decide +kernel
theorem dL_law_499 : decode cL_law 499 = .ok (.iload_n 3, 1) := by decide +kernel
theorem dL_law_500 : decode cL_law 500 = .ok (.iconst 2, 1) := by decide +kernel
theorem dL_law_501 : decode cL_law 501 = .ok (.iadd, 1) := by decide +kernel
theorem dL_law_502 : decode cL_law 502 = .ok (.iaload, 1) := by decide +kernel
theorem dL_law_503 : decode cL_law 503 = .ok (.invokevirtual 68, 3) := by decide +kernel
theorem dL_law_506 : decode cL_law 506 = .ok (.if_icmp .eq 401, 3) := by decide +kernel
theorem dL_law_509 : decode cL_law 509 = .ok (.iconst 0, 1) := by decide +kernel
theorem dL_law_510 : decode cL_law 510 = .ok (.ireturn, 1) := by decide +kernel
theorem dL_law_511 : decode cL_law 511 = .ok (.aload_n 1, 1) := by decide +kernel
theorem dL_law_512 : decode cL_law 512 = .ok (.aload_n 0, 1) := by decide +kernel
theorem dL_law_513 : decode cL_law 513 = .ok (.iload_n 3, 1) := by decide +kernel
theorem dL_law_514 : decode cL_law 514 = .ok (.iconst 1, 1) := by decide +kernel
theorem dL_law_515 : decode cL_law 515 = .ok (.iadd, 1) := by decide +kernel
theorem dL_law_516 : decode cL_law 516 = .ok (.iaload, 1) := by decide +kernel
theorem dL_law_517 : decode cL_law 517 = .ok (.invokevirtual 69, 3) := by decide +kernel
theorem dL_law_520 : decode cL_law 520 = .ok (.aload_n 2, 1) := by decide +kernel
theorem dL_law_521 : decode cL_law 521 = .ok (.aload_n 0, 1) := by decide +kernel
theorem dL_law_522 : decode cL_law 522 = .ok (.iload_n 3, 1) := by decide +kernel
theorem dL_law_523 : decode cL_law 523 = .ok (.iconst 1, 1) := by decide +kernel
theorem dL_law_524 : decode cL_law 524 = .ok (.iadd, 1) := by decide +kernel
theorem dL_law_525 : decode cL_law 525 = .ok (.iaload, 1) := by decide +kernel
theorem dL_law_526 : decode cL_law 526 = .ok (.invokevirtual 72, 3) := by decide +kernel
theorem dL_law_529 : decode cL_law 529 = .ok (.if_icmp .eq 378, 3) := by decide +kernel
theorem dL_law_532 : decode cL_law 532 = .ok (.iconst 0, 1) := by decide +kernel
theorem dL_law_533 : decode cL_law 533 = .ok (.ireturn, 1) := by decide +kernel
theorem dL_law_534 : decode cL_law 534 = .ok (.aload_n 1, 1) := by decide +kernel
theorem dL_law_535 : decode cL_law 535 = .ok (.aload_n 0, 1) := by decide +kernel
theorem dL_law_536 : decode cL_law 536 = .ok (.iload_n 3, 1) := by decide +kernel
theorem dL_law_537 : decode cL_law 537 = .ok (.iconst 1, 1) := by decide +kernel
theorem dL_law_538 : decode cL_law 538 = .ok (.iadd, 1) := by decide +kernel
theorem dL_law_539 : decode cL_law 539 = .ok (.iaload, 1) := by decide +kernel
theorem dL_law_540 : decode cL_law 540 = .ok (.aload_n 0, 1) := by decide +kernel
theorem dL_law_541 : decode cL_law 541 = .ok (.iload_n 3, 1) := by decide +kernel
theorem dL_law_542 : decode cL_law 542 = .ok (.iconst 2, 1) := by decide +kernel
theorem dL_law_543 : decode cL_law 543 = .ok (.iadd, 1) := by decide +kernel
theorem dL_law_544 : decode cL_law 544 = .ok (.iaload, 1) := by decide +kernel
theorem dL_law_545 : decode cL_law 545 = .ok (.aload_n 0, 1) := by decide +kernel
theorem dL_law_546 : decode cL_law 546 = .ok (.iload_n 3, 1) := by decide +kernel
theorem dL_law_547 : decode cL_law 547 = .ok (.iconst 3, 1) := by decide +kernel
theorem dL_law_548 : decode cL_law 548 = .ok (.iadd, 1) := by decide +kernel
theorem dL_law_549 : decode cL_law 549 = .ok (.iaload, 1) := by decide +kernel
theorem dL_law_550 : decode cL_law 550 = .ok (.invokevirtual 73, 3) := by decide +kernel
theorem dL_law_553 : decode cL_law 553 = .ok (.aload_n 2, 1) := by decide +kernel
theorem dL_law_554 : decode cL_law 554 = .ok (.aload_n 0, 1) := by decide +kernel
theorem dL_law_555 : decode cL_law 555 = .ok (.iload_n 3, 1) := by decide +kernel
theorem dL_law_556 : decode cL_law 556 = .ok (.iconst 1, 1) := by decide +kernel
theorem dL_law_557 : decode cL_law 557 = .ok (.iadd, 1) := by decide +kernel
theorem dL_law_558 : decode cL_law 558 = .ok (.iaload, 1) := by decide +kernel
theorem dL_law_559 : decode cL_law 559 = .ok (.aload_n 0, 1) := by decide +kernel
theorem dL_law_560 : decode cL_law 560 = .ok (.iload_n 3, 1) := by decide +kernel
theorem dL_law_561 : decode cL_law 561 = .ok (.iconst 2, 1) := by decide +kernel
theorem dL_law_562 : decode cL_law 562 = .ok (.iadd, 1) := by decide +kernel
theorem dL_law_563 : decode cL_law 563 = .ok (.iaload, 1) := by decide +kernel
theorem dL_law_564 : decode cL_law 564 = .ok (.aload_n 0, 1) := by decide +kernel
theorem dL_law_565 : decode cL_law 565 = .ok (.iload_n 3, 1) := by decide +kernel
theorem dL_law_566 : decode cL_law 566 = .ok (.iconst 3, 1) := by decide +kernel
theorem dL_law_567 : decode cL_law 567 = .ok (.iadd, 1) := by decide +kernel
theorem dL_law_568 : decode cL_law 568 = .ok (.iaload, 1) := by decide +kernel
theorem dL_law_569 : decode cL_law 569 = .ok (.invokevirtual 76, 3) := by decide +kernel
theorem dL_law_572 : decode cL_law 572 = .ok (.if_icmp .eq 335, 3) := by decide +kernel
theorem dL_law_575 : decode cL_law 575 = .ok (.iconst 0, 1) := by decide +kernel
theorem dL_law_576 : decode cL_law 576 = .ok (.ireturn, 1) := by decide +kernel
theorem dL_law_577 : decode cL_law 577 = .ok (.aload_n 1, 1) := by decide +kernel
theorem dL_law_578 : decode cL_law 578 = .ok (.aload_n 0, 1) := by decide +kernel
theorem dL_law_579 : decode cL_law 579 = .ok (.iload_n 3, 1) := by decide +kernel
theorem dL_law_580 : decode cL_law 580 = .ok (.iconst 1, 1) := by decide +kernel
theorem dL_law_581 : decode cL_law 581 = .ok (.iadd, 1) := by decide +kernel
theorem dL_law_582 : decode cL_law 582 = .ok (.iaload, 1) := by decide +kernel
theorem dL_law_583 : decode cL_law 583 = .ok (.aload_n 0, 1) := by decide +kernel
theorem dL_law_584 : decode cL_law 584 = .ok (.iload_n 3, 1) := by decide +kernel
theorem dL_law_585 : decode cL_law 585 = .ok (.iconst 2, 1) := by decide +kernel
theorem dL_law_586 : decode cL_law 586 = .ok (.iadd, 1) := by decide +kernel
theorem dL_law_587 : decode cL_law 587 = .ok (.iaload, 1) := by decide +kernel
theorem dL_law_588 : decode cL_law 588 = .ok (.invokevirtual 77, 3) := by decide +kernel
theorem dL_law_591 : decode cL_law 591 = .ok (.aload_n 2, 1) := by decide +kernel
theorem dL_law_592 : decode cL_law 592 = .ok (.aload_n 0, 1) := by decide +kernel
theorem dL_law_593 : decode cL_law 593 = .ok (.iload_n 3, 1) := by decide +kernel
theorem dL_law_594 : decode cL_law 594 = .ok (.iconst 1, 1) := by decide +kernel
theorem dL_law_595 : decode cL_law 595 = .ok (.iadd, 1) := by decide +kernel
theorem dL_law_596 : decode cL_law 596 = .ok (.iaload, 1) := by decide +kernel
theorem dL_law_597 : decode cL_law 597 = .ok (.aload_n 0, 1) := by decide +kernel
theorem dL_law_598 : decode cL_law 598 = .ok (.iload_n 3, 1) := by decide +kernel
theorem dL_law_599 : decode cL_law 599 = .ok (.iconst 2, 1) := by decide +kernel
theorem dL_law_600 : decode cL_law 600 = .ok (.iadd, 1) := by decide +kernel
theorem dL_law_601 : decode cL_law 601 = .ok (.iaload, 1) := by decide +kernel
theorem dL_law_602 : decode cL_law 602 = .ok (.invokevirtual 80, 3) := by decide +kernel
theorem dL_law_605 : decode cL_law 605 = .ok (.if_icmp .eq 302, 3) := by decide +kernel
theorem dL_law_608 : decode cL_law 608 = .ok (.iconst 0, 1) := by decide +kernel
theorem dL_law_609 : decode cL_law 609 = .ok (.ireturn, 1) := by decide +kernel
theorem dL_law_610 : decode cL_law 610 = .ok (.aload_n 1, 1) := by decide +kernel
theorem dL_law_611 : decode cL_law 611 = .ok (.aload_n 0, 1) := by decide +kernel
theorem dL_law_612 : decode cL_law 612 = .ok (.iload_n 3, 1) := by decide +kernel
theorem dL_law_613 : decode cL_law 613 = .ok (.iconst 1, 1) := by decide +kernel
theorem dL_law_614 : decode cL_law 614 = .ok (.iadd, 1) := by decide +kernel
theorem dL_law_615 : decode cL_law 615 = .ok (.iaload, 1) := by decide +kernel
theorem dL_law_616 : decode cL_law 616 = .ok (.aload_n 0, 1) := by decide +kernel
theorem dL_law_617 : decode cL_law 617 = .ok (.iload_n 3, 1) := by decide +kernel
theorem dL_law_618 : decode cL_law 618 = .ok (.iconst 2, 1) := by decide +kernel
theorem dL_law_619 : decode cL_law 619 = .ok (.iadd, 1) := by decide +kernel
theorem dL_law_620 : decode cL_law 620 = .ok (.iaload, 1) := by decide +kernel
theorem dL_law_621 : decode cL_law 621 = .ok (.aload_n 0, 1) := by decide +kernel
theorem dL_law_622 : decode cL_law 622 = .ok (.iload_n 3, 1) := by decide +kernel
theorem dL_law_623 : decode cL_law 623 = .ok (.iconst 3, 1) := by decide +kernel
theorem dL_law_624 : decode cL_law 624 = .ok (.iadd, 1) := by decide +kernel
theorem dL_law_625 : decode cL_law 625 = .ok (.iaload, 1) := by decide +kernel
theorem dL_law_626 : decode cL_law 626 = .ok (.invokevirtual 81, 3) := by decide +kernel
theorem dL_law_629 : decode cL_law 629 = .ok (.aload_n 2, 1) := by decide +kernel
theorem dL_law_630 : decode cL_law 630 = .ok (.aload_n 0, 1) := by decide +kernel
theorem dL_law_631 : decode cL_law 631 = .ok (.iload_n 3, 1) := by decide +kernel
theorem dL_law_632 : decode cL_law 632 = .ok (.iconst 1, 1) := by decide +kernel
theorem dL_law_633 : decode cL_law 633 = .ok (.iadd, 1) := by decide +kernel
theorem dL_law_634 : decode cL_law 634 = .ok (.iaload, 1) := by decide +kernel
theorem dL_law_635 : decode cL_law 635 = .ok (.aload_n 0, 1) := by decide +kernel
theorem dL_law_636 : decode cL_law 636 = .ok (.iload_n 3, 1) := by decide +kernel
theorem dL_law_637 : decode cL_law 637 = .ok (.iconst 2, 1) := by decide +kernel
theorem dL_law_638 : decode cL_law 638 = .ok (.iadd, 1) := by decide +kernel
theorem dL_law_639 : decode cL_law 639 = .ok (.iaload, 1) := by decide +kernel
theorem dL_law_640 : decode cL_law 640 = .ok (.aload_n 0, 1) := by decide +kernel
theorem dL_law_641 : decode cL_law 641 = .ok (.iload_n 3, 1) := by decide +kernel
theorem dL_law_642 : decode cL_law 642 = .ok (.iconst 3, 1) := by decide +kernel
theorem dL_law_643 : decode cL_law 643 = .ok (.iadd, 1) := by decide +kernel
theorem dL_law_644 : decode cL_law 644 = .ok (.iaload, 1) := by decide +kernel
theorem dL_law_645 : decode cL_law 645 = .ok (.invokevirtual 84, 3) := by decide +kernel
theorem dL_law_648 : decode cL_law 648 = .ok (.if_icmp .eq 259, 3) := by decide +kernel
theorem dL_law_651 : decode cL_law 651 = .ok (.iconst 0, 1) := by decide +kernel
theorem dL_law_652 : decode cL_law 652 = .ok (.ireturn, 1) := by decide +kernel
theorem dL_law_653 : decode cL_law 653 = .ok (.aload_n 1, 1) := by decide +kernel
theorem dL_law_654 : decode cL_law 654 = .ok (.aload_n 0, 1) := by decide +kernel
theorem dL_law_655 : decode cL_law 655 = .ok (.iload_n 3, 1) := by decide +kernel
theorem dL_law_656 : decode cL_law 656 = .ok (.iconst 1, 1) := by decide +kernel
theorem dL_law_657 : decode cL_law 657 = .ok (.iadd, 1) := by decide +kernel
theorem dL_law_658 : decode cL_law 658 = .ok (.iaload, 1) := by decide +kernel
theorem dL_law_659 : decode cL_law 659 = .ok (.aload_n 0, 1) := by decide +kernel
theorem dL_law_660 : decode cL_law 660 = .ok (.iload_n 3, 1) := by decide +kernel
theorem dL_law_661 : decode cL_law 661 = .ok (.iconst 2, 1) := by decide +kernel
theorem dL_law_662 : decode cL_law 662 = .ok (.iadd, 1) := by decide +kernel
theorem dL_law_663 : decode cL_law 663 = .ok (.iaload, 1) := by decide +kernel
theorem dL_law_664 : decode cL_law 664 = .ok (.aload_n 0, 1) := by decide +kernel
theorem dL_law_665 : decode cL_law 665 = .ok (.iload_n 3, 1) := by decide +kernel
theorem dL_law_666 : decode cL_law 666 = .ok (.iconst 3, 1) := by decide +kernel
theorem dL_law_667 : decode cL_law 667 = .ok (.iadd, 1) := by decide +kernel
theorem dL_law_668 : decode cL_law 668 = .ok (.iaload, 1) := by decide +kernel
theorem dL_law_669 : decode cL_law 669 = .ok (.invokevirtual 85, 3) := by decide +kernel
theorem dL_law_672 : decode cL_law 672 = .ok (.aload_n 2, 1) := by decide +kernel
theorem dL_law_673 : decode cL_law 673 = .ok (.aload_n 0, 1) := by decide +kernel
theorem dL_law_674 : decode cL_law 674 = .ok (.iload_n 3, 1) := by decide +kernel
theorem dL_law_675 : decode cL_law 675 = .ok (.iconst 1, 1) := by decide +kernel
theorem dL_law_676 : decode cL_law 676 = .ok (.iadd, 1) := by decide +kernel
theorem dL_law_677 : decode cL_law 677 = .ok (.iaload, 1) := by decide +kernel
theorem dL_law_678 : decode cL_law 678 = .ok (.aload_n 0, 1) := by decide +kernel
theorem dL_law_679 : decode cL_law 679 = .ok (.iload_n 3, 1) := by decide +kernel
theorem dL_law_680 : decode cL_law 680 = .ok (.iconst 2, 1) := by decide +kernel
theorem dL_law_681 : decode cL_law 681 = .ok (.iadd, 1) := by decide +kernel
theorem dL_law_682 : decode cL_law 682 = .ok (.iaload, 1) := by decide +kernel
theorem dL_law_683 : decode cL_law 683 = .ok (.aload_n 0, 1) := by decide +kernel
theorem dL_law_684 : decode cL_law 684 = .ok (.iload_n 3, 1) := by decide +kernel
theorem dL_law_685 : decode cL_law 685 = .ok (.iconst 3, 1) := by decide +kernel
theorem dL_law_686 : decode cL_law 686 = .ok (.iadd, 1) := by decide +kernel
theorem dL_law_687 : decode cL_law 687 = .ok (.iaload, 1) := by decide +kernel
theorem dL_law_688 : decode cL_law 688 = .ok (.invokevirtual 88, 3) := by decide +kernel
theorem dL_law_691 : decode cL_law 691 = .ok (.if_icmp .eq 216, 3) := by decide +kernel
theorem dL_law_694 : decode cL_law 694 = .ok (.iconst 0, 1) := by decide +kernel
theorem dL_law_695 : decode cL_law 695 = .ok (.ireturn, 1) := by decide +kernel
theorem dL_law_696 : decode cL_law 696 = .ok (.aload_n 1, 1) := by decide +kernel
theorem dL_law_697 : decode cL_law 697 = .ok (.aload_n 0, 1) := by decide +kernel
theorem dL_law_698 : decode cL_law 698 = .ok (.iload_n 3, 1) := by decide +kernel
theorem dL_law_699 : decode cL_law 699 = .ok (.iconst 1, 1) := by decide +kernel
theorem dL_law_700 : decode cL_law 700 = .ok (.iadd, 1) := by decide +kernel
theorem dL_law_701 : decode cL_law 701 = .ok (.iaload, 1) := by decide +kernel
theorem dL_law_702 : decode cL_law 702 = .ok (.aload_n 0, 1) := by decide +kernel
theorem dL_law_703 : decode cL_law 703 = .ok (.iload_n 3, 1) := by decide +kernel
theorem dL_law_704 : decode cL_law 704 = .ok (.iconst 2, 1) := by decide +kernel
theorem dL_law_705 : decode cL_law 705 = .ok (.iadd, 1) := by decide +kernel
theorem dL_law_706 : decode cL_law 706 = .ok (.iaload, 1) := by decide +kernel
theorem dL_law_707 : decode cL_law 707 = .ok (.invokevirtual 89, 3) := by decide +kernel
theorem dL_law_710 : decode cL_law 710 = .ok (.aload_n 2, 1) := by decide +kernel
theorem dL_law_711 : decode cL_law 711 = .ok (.aload_n 0, 1) := by decide +kernel
theorem dL_law_712 : decode cL_law 712 = .ok (.iload_n 3, 1) := by decide +kernel
theorem dL_law_713 : decode cL_law 713 = .ok (.iconst 1, 1) := by decide +kernel
theorem dL_law_714 : decode cL_law 714 = .ok (.iadd, 1) := by decide +kernel
theorem dL_law_715 : decode cL_law 715 = .ok (.iaload, 1) := by decide +kernel
theorem dL_law_716 : decode cL_law 716 = .ok (.aload_n 0, 1) := by decide +kernel
theorem dL_law_717 : decode cL_law 717 = .ok (.iload_n 3, 1) := by decide +kernel
theorem dL_law_718 : decode cL_law 718 = .ok (.iconst 2, 1) := by decide +kernel
theorem dL_law_719 : decode cL_law 719 = .ok (.iadd, 1) := by decide +kernel
theorem dL_law_720 : decode cL_law 720 = .ok (.iaload, 1) := by decide +kernel
theorem dL_law_721 : decode cL_law 721 = .ok (.invokevirtual 92, 3) := by decide +kernel
theorem dL_law_724 : decode cL_law 724 = .ok (.if_icmp .eq 183, 3) := by decide +kernel
theorem dL_law_727 : decode cL_law 727 = .ok (.iconst 0, 1) := by decide +kernel
theorem dL_law_728 : decode cL_law 728 = .ok (.ireturn, 1) := by decide +kernel
theorem dL_law_729 : decode cL_law 729 = .ok (.aload_n 1, 1) := by decide +kernel
theorem dL_law_730 : decode cL_law 730 = .ok (.aload_n 0, 1) := by decide +kernel
theorem dL_law_731 : decode cL_law 731 = .ok (.iload_n 3, 1) := by decide +kernel
theorem dL_law_732 : decode cL_law 732 = .ok (.iconst 1, 1) := by decide +kernel
theorem dL_law_733 : decode cL_law 733 = .ok (.iadd, 1) := by decide +kernel
theorem dL_law_734 : decode cL_law 734 = .ok (.iaload, 1) := by decide +kernel
theorem dL_law_735 : decode cL_law 735 = .ok (.aload_n 0, 1) := by decide +kernel
theorem dL_law_736 : decode cL_law 736 = .ok (.iload_n 3, 1) := by decide +kernel
theorem dL_law_737 : decode cL_law 737 = .ok (.iconst 2, 1) := by decide +kernel
theorem dL_law_738 : decode cL_law 738 = .ok (.iadd, 1) := by decide +kernel
theorem dL_law_739 : decode cL_law 739 = .ok (.iaload, 1) := by decide +kernel
theorem dL_law_740 : decode cL_law 740 = .ok (.aload_n 0, 1) := by decide +kernel
theorem dL_law_741 : decode cL_law 741 = .ok (.iload_n 3, 1) := by decide +kernel
theorem dL_law_742 : decode cL_law 742 = .ok (.iconst 3, 1) := by decide +kernel
theorem dL_law_743 : decode cL_law 743 = .ok (.iadd, 1) := by decide +kernel
theorem dL_law_744 : decode cL_law 744 = .ok (.iaload, 1) := by decide +kernel
theorem dL_law_745 : decode cL_law 745 = .ok (.ifCond .eq 7, 3) := by decide +kernel
theorem dL_law_748 : decode cL_law 748 = .ok (.iconst 1, 1) := by decide +kernel
theorem dL_law_749 : decode cL_law 749 = .ok (.goto 4, 3) := by decide +kernel
theorem dL_law_752 : decode cL_law 752 = .ok (.iconst 0, 1) := by decide +kernel
theorem dL_law_753 : decode cL_law 753 = .ok (.invokevirtual 93, 3) := by decide +kernel
theorem dL_law_756 : decode cL_law 756 = .ok (.aload_n 2, 1) := by decide +kernel
theorem dL_law_757 : decode cL_law 757 = .ok (.aload_n 0, 1) := by decide +kernel
theorem dL_law_758 : decode cL_law 758 = .ok (.iload_n 3, 1) := by decide +kernel
theorem dL_law_759 : decode cL_law 759 = .ok (.iconst 1, 1) := by decide +kernel
theorem dL_law_760 : decode cL_law 760 = .ok (.iadd, 1) := by decide +kernel
theorem dL_law_761 : decode cL_law 761 = .ok (.iaload, 1) := by decide +kernel
theorem dL_law_762 : decode cL_law 762 = .ok (.aload_n 0, 1) := by decide +kernel
theorem dL_law_763 : decode cL_law 763 = .ok (.iload_n 3, 1) := by decide +kernel
theorem dL_law_764 : decode cL_law 764 = .ok (.iconst 2, 1) := by decide +kernel
theorem dL_law_765 : decode cL_law 765 = .ok (.iadd, 1) := by decide +kernel
theorem dL_law_766 : decode cL_law 766 = .ok (.iaload, 1) := by decide +kernel
theorem dL_law_767 : decode cL_law 767 = .ok (.aload_n 0, 1) := by decide +kernel
theorem dL_law_768 : decode cL_law 768 = .ok (.iload_n 3, 1) := by decide +kernel
theorem dL_law_769 : decode cL_law 769 = .ok (.iconst 3, 1) := by decide +kernel
theorem dL_law_770 : decode cL_law 770 = .ok (.iadd, 1) := by decide +kernel
theorem dL_law_771 : decode cL_law 771 = .ok (.iaload, 1) := by decide +kernel
theorem dL_law_772 : decode cL_law 772 = .ok (.ifCond .eq 7, 3) := by decide +kernel
theorem dL_law_775 : decode cL_law 775 = .ok (.iconst 1, 1) := by decide +kernel
theorem dL_law_776 : decode cL_law 776 = .ok (.goto 4, 3) := by decide +kernel
theorem dL_law_779 : decode cL_law 779 = .ok (.iconst 0, 1) := by decide +kernel
theorem dL_law_780 : decode cL_law 780 = .ok (.invokevirtual 97, 3) := by decide +kernel
theorem dL_law_783 : decode cL_law 783 = .ok (.if_icmp .eq 124, 3) := by decide +kernel
theorem dL_law_786 : decode cL_law 786 = .ok (.iconst 0, 1) := by decide +kernel
theorem dL_law_787 : decode cL_law 787 = .ok (.ireturn, 1) := by decide +kernel
theorem dL_law_788 : decode cL_law 788 = .ok (.aload_n 1, 1) := by decide +kernel
theorem dL_law_789 : decode cL_law 789 = .ok (.invokevirtual 98, 3) := by decide +kernel
theorem dL_law_792 : decode cL_law 792 = .ok (.aload_n 2, 1) := by decide +kernel
theorem dL_law_793 : decode cL_law 793 = .ok (.invokevirtual 101, 3) := by decide +kernel
theorem dL_law_796 : decode cL_law 796 = .ok (.if_icmp .eq 111, 3) := by decide +kernel
theorem dL_law_799 : decode cL_law 799 = .ok (.iconst 0, 1) := by decide +kernel
theorem dL_law_800 : decode cL_law 800 = .ok (.ireturn, 1) := by decide +kernel
theorem dL_law_801 : decode cL_law 801 = .ok (.aload_n 1, 1) := by decide +kernel
theorem dL_law_802 : decode cL_law 802 = .ok (.aload_n 0, 1) := by decide +kernel
theorem dL_law_803 : decode cL_law 803 = .ok (.iload_n 3, 1) := by decide +kernel
theorem dL_law_804 : decode cL_law 804 = .ok (.iconst 1, 1) := by decide +kernel
theorem dL_law_805 : decode cL_law 805 = .ok (.iadd, 1) := by decide +kernel
theorem dL_law_806 : decode cL_law 806 = .ok (.iaload, 1) := by decide +kernel
theorem dL_law_807 : decode cL_law 807 = .ok (.aload_n 0, 1) := by decide +kernel
theorem dL_law_808 : decode cL_law 808 = .ok (.iload_n 3, 1) := by decide +kernel
theorem dL_law_809 : decode cL_law 809 = .ok (.iconst 2, 1) := by decide +kernel
theorem dL_law_810 : decode cL_law 810 = .ok (.iadd, 1) := by decide +kernel
theorem dL_law_811 : decode cL_law 811 = .ok (.iaload, 1) := by decide +kernel
theorem dL_law_812 : decode cL_law 812 = .ok (.aload_n 0, 1) := by decide +kernel
theorem dL_law_813 : decode cL_law 813 = .ok (.iload_n 3, 1) := by decide +kernel
theorem dL_law_814 : decode cL_law 814 = .ok (.iconst 3, 1) := by decide +kernel
theorem dL_law_815 : decode cL_law 815 = .ok (.iadd, 1) := by decide +kernel
theorem dL_law_816 : decode cL_law 816 = .ok (.iaload, 1) := by decide +kernel
theorem dL_law_817 : decode cL_law 817 = .ok (.invokevirtual 102, 3) := by decide +kernel
theorem dL_law_820 : decode cL_law 820 = .ok (.aload_n 2, 1) := by decide +kernel
theorem dL_law_821 : decode cL_law 821 = .ok (.aload_n 0, 1) := by decide +kernel
theorem dL_law_822 : decode cL_law 822 = .ok (.iload_n 3, 1) := by decide +kernel
theorem dL_law_823 : decode cL_law 823 = .ok (.iconst 1, 1) := by decide +kernel
theorem dL_law_824 : decode cL_law 824 = .ok (.iadd, 1) := by decide +kernel
theorem dL_law_825 : decode cL_law 825 = .ok (.iaload, 1) := by decide +kernel
theorem dL_law_826 : decode cL_law 826 = .ok (.aload_n 0, 1) := by decide +kernel
theorem dL_law_827 : decode cL_law 827 = .ok (.iload_n 3, 1) := by decide +kernel
theorem dL_law_828 : decode cL_law 828 = .ok (.iconst 2, 1) := by decide +kernel
theorem dL_law_829 : decode cL_law 829 = .ok (.iadd, 1) := by decide +kernel
theorem dL_law_830 : decode cL_law 830 = .ok (.iaload, 1) := by decide +kernel
theorem dL_law_831 : decode cL_law 831 = .ok (.aload_n 0, 1) := by decide +kernel
theorem dL_law_832 : decode cL_law 832 = .ok (.iload_n 3, 1) := by decide +kernel
theorem dL_law_833 : decode cL_law 833 = .ok (.iconst 3, 1) := by decide +kernel
theorem dL_law_834 : decode cL_law 834 = .ok (.iadd, 1) := by decide +kernel
theorem dL_law_835 : decode cL_law 835 = .ok (.iaload, 1) := by decide +kernel
theorem dL_law_836 : decode cL_law 836 = .ok (.invokevirtual 105, 3) := by decide +kernel
theorem dL_law_839 : decode cL_law 839 = .ok (.if_icmp .eq 68, 3) := by decide +kernel
theorem dL_law_842 : decode cL_law 842 = .ok (.iconst 0, 1) := by decide +kernel
theorem dL_law_843 : decode cL_law 843 = .ok (.ireturn, 1) := by decide +kernel
theorem dL_law_844 : decode cL_law 844 = .ok (.aload_n 1, 1) := by decide +kernel
theorem dL_law_845 : decode cL_law 845 = .ok (.invokevirtual 106, 3) := by decide +kernel
theorem dL_law_848 : decode cL_law 848 = .ok (.aload_n 2, 1) := by decide +kernel
theorem dL_law_849 : decode cL_law 849 = .ok (.invokevirtual 109, 3) := by decide +kernel
theorem dL_law_852 : decode cL_law 852 = .ok (.if_icmp .eq 55, 3) := by decide +kernel
theorem dL_law_855 : decode cL_law 855 = .ok (.iconst 0, 1) := by decide +kernel
theorem dL_law_856 : decode cL_law 856 = .ok (.ireturn, 1) := by decide +kernel
theorem dL_law_857 : decode cL_law 857 = .ok (.aload_n 1, 1) := by decide +kernel
theorem dL_law_858 : decode cL_law 858 = .ok (.invokevirtual 110, 3) := by decide +kernel
theorem dL_law_861 : decode cL_law 861 = .ok (.aload_n 2, 1) := by decide +kernel
theorem dL_law_862 : decode cL_law 862 = .ok (.invokevirtual 113, 3) := by decide +kernel
theorem dL_law_865 : decode cL_law 865 = .ok (.if_icmp .eq 42, 3) := by decide +kernel
theorem dL_law_868 : decode cL_law 868 = .ok (.iconst 0, 1) := by decide +kernel
theorem dL_law_869 : decode cL_law 869 = .ok (.ireturn, 1) := by decide +kernel
theorem dL_law_870 : decode cL_law 870 = .ok (.aload_n 1, 1) := by decide +kernel
theorem dL_law_871 : decode cL_law 871 = .ok (.aload_n 0, 1) := by decide +kernel
theorem dL_law_872 : decode cL_law 872 = .ok (.iload_n 3, 1) := by decide +kernel
theorem dL_law_873 : decode cL_law 873 = .ok (.iconst 1, 1) := by decide +kernel
theorem dL_law_874 : decode cL_law 874 = .ok (.iadd, 1) := by decide +kernel
theorem dL_law_875 : decode cL_law 875 = .ok (.iaload, 1) := by decide +kernel
theorem dL_law_876 : decode cL_law 876 = .ok (.invokevirtual 114, 3) := by decide +kernel
theorem dL_law_879 : decode cL_law 879 = .ok (.aload_n 2, 1) := by decide +kernel
theorem dL_law_880 : decode cL_law 880 = .ok (.aload_n 0, 1) := by decide +kernel
theorem dL_law_881 : decode cL_law 881 = .ok (.iload_n 3, 1) := by decide +kernel
theorem dL_law_882 : decode cL_law 882 = .ok (.iconst 1, 1) := by decide +kernel
theorem dL_law_883 : decode cL_law 883 = .ok (.iadd, 1) := by decide +kernel
theorem dL_law_884 : decode cL_law 884 = .ok (.iaload, 1) := by decide +kernel
theorem dL_law_885 : decode cL_law 885 = .ok (.invokevirtual 117, 3) := by decide +kernel
theorem dL_law_888 : decode cL_law 888 = .ok (.if_icmp .eq 19, 3) := by decide +kernel
theorem dL_law_891 : decode cL_law 891 = .ok (.iconst 0, 1) := by decide +kernel
theorem dL_law_892 : decode cL_law 892 = .ok (.ireturn, 1) := by decide +kernel
theorem dL_law_893 : decode cL_law 893 = .ok (.aload_n 1, 1) := by decide +kernel
theorem dL_law_894 : decode cL_law 894 = .ok (.invokevirtual 118, 3) := by decide +kernel
theorem dL_law_897 : decode cL_law 897 = .ok (.aload_n 2, 1) := by decide +kernel
theorem dL_law_898 : decode cL_law 898 = .ok (.invokevirtual 122, 3) := by decide +kernel
theorem dL_law_901 : decode cL_law 901 = .ok (.lcmp, 1) := by decide +kernel
theorem dL_law_902 : decode cL_law 902 = .ok (.ifCond .eq 5, 3) := by decide +kernel
theorem dL_law_905 : decode cL_law 905 = .ok (.iconst 0, 1) := by decide +kernel
theorem dL_law_906 : decode cL_law 906 = .ok (.ireturn, 1) := by decide +kernel
theorem dL_law_907 : decode cL_law 907 = .ok (.iinc 3 4, 3) := by decide +kernel
theorem dL_law_910 : decode cL_law 910 = .ok (.goto (-892), 3) := by decide +kernel
theorem dL_law_913 : decode cL_law 913 = .ok (.iconst 1, 1) := by decide +kernel
theorem dL_law_914 : decode cL_law 914 = .ok (.ireturn, 1) := by decide +kernel
end
section
/-! whole numbers for ints and longs: what the machine's numbers do, said of Int -/
theorem za_add (a b : Int) : Int32.ofInt a + Int32.ofInt b = Int32.ofInt (a + b) := Int32.toBitVec.inj (BitVec.ofInt_add a b).symm
theorem za_mul (a b : Int) : Int32.ofInt a * Int32.ofInt b = Int32.ofInt (a * b) := Int32.toBitVec.inj (BitVec.ofInt_mul a b).symm
theorem za_sub (a b : Int) : Int32.ofInt a - Int32.ofInt b = Int32.ofInt (a - b) := by
  have h : Int32.ofInt (a - b) + Int32.ofInt b = Int32.ofInt a := by rw [za_add, Int.sub_add_cancel]
  rw [← h]
  exact Int32.add_sub_cancel _ _
theorem za_ladd (a b : Int) : Int64.ofInt a + Int64.ofInt b = Int64.ofInt (a + b) := Int64.toBitVec.inj (BitVec.ofInt_add a b).symm
theorem za_lmul (a b : Int) : Int64.ofInt a * Int64.ofInt b = Int64.ofInt (a * b) := Int64.toBitVec.inj (BitVec.ofInt_mul a b).symm
/-- in the range of an int -/
def zr (a : Int) : Prop := -2147483648 ≤ a ∧ a < 2147483648
theorem za_to {a : Int} (h : zr a) : (Int32.ofInt a).toInt = a := Int32.toInt_ofInt_of_le h.1 h.2
theorem za_r (x : Int32) : zr x.toInt := ⟨x.le_toInt, x.toInt_lt⟩
theorem za_eq {a b : Int} (ha : zr a) (hb : zr b) : Int32.ofInt a = Int32.ofInt b ↔ a = b := ⟨fun h => by rw [← za_to ha, ← za_to hb, h], fun h => by rw [h]⟩
theorem za_lt {a b : Int} (ha : zr a) (hb : zr b) : Int32.ofInt a < Int32.ofInt b ↔ a < b := by rw [Int32.lt_iff_toInt_lt, za_to ha, za_to hb]
theorem za_le {a b : Int} (ha : zr a) (hb : zr b) : Int32.ofInt a ≤ Int32.ofInt b ↔ a ≤ b := by rw [Int32.le_iff_toInt_le, za_to ha, za_to hb]
theorem za_0 : Int32.ofInt 0 = 0 := rfl
theorem za_eq0 {a : Int} (ha : zr a) : Int32.ofInt a = 0 ↔ a = 0 := za_eq (b := 0) ha ⟨by decide, by decide⟩
theorem za_lt0 {a : Int} (ha : zr a) : Int32.ofInt a < 0 ↔ a < 0 := za_lt (b := 0) ha ⟨by decide, by decide⟩
theorem za_le0 {a : Int} (ha : zr a) : Int32.ofInt a ≤ 0 ↔ a ≤ 0 := za_le (b := 0) ha ⟨by decide, by decide⟩
theorem za_0lt {a : Int} (ha : zr a) : 0 < Int32.ofInt a ↔ 0 < a := za_lt (a := 0) ⟨by decide, by decide⟩ ha
theorem za_0le {a : Int} (ha : zr a) : 0 ≤ Int32.ofInt a ↔ 0 ≤ a := za_le (a := 0) ⟨by decide, by decide⟩ ha
theorem za_nat (n : Nat) : Int32.ofInt (n : Int) = nI n := Int32.ofInt_eq_ofNat
theorem za_lnat (n : Nat) : Int64.ofInt (n : Int) = lN n := Int64.ofInt_eq_ofNat
theorem za_cl {a : Int} (h0 : 0 ≤ a) (h : a < 2147483648) : (Int32.ofInt a).toNatClampNeg = a.toNat := Int32.toNatClampNeg_ofInt_of_le (by omega) h
theorem za_in {a : Int} {n : Nat} (h0 : 0 ≤ a) (h : a < n) (hn : n < 2147483648) : vp_in (Int32.ofInt a) n := by
  rw [vp_in_iff, za_to ⟨by omega, by omega⟩]
  exact ⟨h0, h⟩
theorem za_div {a b : Int} (h0 : 0 ≤ a) (h1 : a < 2147483648) (h2 : 0 < b) (h3 : b < 2147483648) : Int32.ofInt a / Int32.ofInt b = Int32.ofInt (a / b) := by
  obtain ⟨x, rfl⟩ := Int.eq_ofNat_of_zero_le h0
  obtain ⟨y, rfl⟩ := Int.eq_ofNat_of_zero_le (Int.le_of_lt h2)
  rw [za_nat, za_nat, ← Int.natCast_ediv, za_nat]
  exact pk_div (by omega) (by omega) (by omega)
theorem za_rem {a b : Int} (h0 : 0 ≤ a) (h1 : a < 2147483648) (h2 : 0 < b) (h3 : b < 2147483648) : Int32.ofInt a - Int32.ofInt a / Int32.ofInt b * Int32.ofInt b = Int32.ofInt (a % b) := by
  obtain ⟨x, rfl⟩ := Int.eq_ofNat_of_zero_le h0
  obtain ⟨y, rfl⟩ := Int.eq_ofNat_of_zero_le (Int.le_of_lt h2)
  rw [za_nat, za_nat, ← Int.natCast_emod, za_nat]
  exact pk_rem (by omega) (by omega) (by omega)
theorem za_lto {a : Int} (h : -9223372036854775808 ≤ a ∧ a < 9223372036854775808) : (Int64.ofInt a).toInt = a := Int64.toInt_ofInt_of_le h.1 h.2
theorem za_ldiv {a b : Int} (h0 : 0 ≤ a) (h1 : a < 9223372036854775808) (h2 : 0 < b) (h3 : b < 9223372036854775808) : Int64.ofInt a / Int64.ofInt b = Int64.ofInt (a / b) := by
  obtain ⟨x, rfl⟩ := Int.eq_ofNat_of_zero_le h0
  obtain ⟨y, rfl⟩ := Int.eq_ofNat_of_zero_le (Int.le_of_lt h2)
  rw [za_lnat, za_lnat, ← Int.natCast_ediv, za_lnat]
  exact pk_lDiv (by omega) (by omega) (by omega)
theorem za_lrem {a b : Int} (h0 : 0 ≤ a) (h1 : a < 9223372036854775808) (h2 : 0 < b) (h3 : b < 9223372036854775808) : Int64.ofInt a - Int64.ofInt a / Int64.ofInt b * Int64.ofInt b = Int64.ofInt (a % b) := by
  obtain ⟨x, rfl⟩ := Int.eq_ofNat_of_zero_le h0
  obtain ⟨y, rfl⟩ := Int.eq_ofNat_of_zero_le (Int.le_of_lt h2)
  rw [za_lnat, za_lnat, ← Int.natCast_emod, za_lnat]
  exact pk_lRem (by omega) (by omega) (by omega)
/-- bits of numbers that are not negative -/
def zand (a b : Int) : Int := ((a.toNat &&& b.toNat : Nat) : Int)
def zor (a b : Int) : Int := ((a.toNat ||| b.toNat : Nat) : Int)
def zxor (a b : Int) : Int := ((a.toNat ^^^ b.toNat : Nat) : Int)
theorem za_bv (n : Nat) : (Int32.ofInt (n : Int)).toBitVec = BitVec.ofNat 32 n := by rw [za_nat]; rfl
theorem za_lbv (n : Nat) : (Int64.ofInt (n : Int)).toBitVec = BitVec.ofNat 64 n := by rw [za_lnat]; rfl
theorem za_and {a b : Int} (ha : 0 ≤ a) (hb : 0 ≤ b) : Int32.ofInt a &&& Int32.ofInt b = Int32.ofInt (zand a b) := by
  obtain ⟨x, rfl⟩ := Int.eq_ofNat_of_zero_le ha
  obtain ⟨y, rfl⟩ := Int.eq_ofNat_of_zero_le hb
  apply Int32.toBitVec.inj
  rw [Int32.toBitVec_and, za_bv, za_bv, zand, za_bv]
  simp [BitVec.ofNat_and]
theorem za_or {a b : Int} (ha : 0 ≤ a) (hb : 0 ≤ b) : Int32.ofInt a ||| Int32.ofInt b = Int32.ofInt (zor a b) := by
  obtain ⟨x, rfl⟩ := Int.eq_ofNat_of_zero_le ha
  obtain ⟨y, rfl⟩ := Int.eq_ofNat_of_zero_le hb
  apply Int32.toBitVec.inj
  rw [Int32.toBitVec_or, za_bv, za_bv, zor, za_bv]
  simp [BitVec.ofNat_or]
theorem za_xor {a b : Int} (ha : 0 ≤ a) (hb : 0 ≤ b) : Int32.ofInt a ^^^ Int32.ofInt b = Int32.ofInt (zxor a b) := by
  obtain ⟨x, rfl⟩ := Int.eq_ofNat_of_zero_le ha
  obtain ⟨y, rfl⟩ := Int.eq_ofNat_of_zero_le hb
  apply Int32.toBitVec.inj
  rw [Int32.toBitVec_xor, za_bv, za_bv, zxor, za_bv]
  simp [BitVec.ofNat_xor]
theorem za_land {a b : Int} (ha : 0 ≤ a) (hb : 0 ≤ b) : Int64.ofInt a &&& Int64.ofInt b = Int64.ofInt (zand a b) := by
  obtain ⟨x, rfl⟩ := Int.eq_ofNat_of_zero_le ha
  obtain ⟨y, rfl⟩ := Int.eq_ofNat_of_zero_le hb
  apply Int64.toBitVec.inj
  rw [Int64.toBitVec_and, za_lbv, za_lbv, zand, za_lbv]
  simp [BitVec.ofNat_and]
theorem za_lor {a b : Int} (ha : 0 ≤ a) (hb : 0 ≤ b) : Int64.ofInt a ||| Int64.ofInt b = Int64.ofInt (zor a b) := by
  obtain ⟨x, rfl⟩ := Int.eq_ofNat_of_zero_le ha
  obtain ⟨y, rfl⟩ := Int.eq_ofNat_of_zero_le hb
  apply Int64.toBitVec.inj
  rw [Int64.toBitVec_or, za_lbv, za_lbv, zor, za_lbv]
  simp [BitVec.ofNat_or]
theorem zand_0 (a b : Int) : 0 ≤ zand a b := Int.natCast_nonneg _
theorem zor_0 (a b : Int) : 0 ≤ zor a b := Int.natCast_nonneg _
theorem zxor_0 (a b : Int) : 0 ≤ zxor a b := Int.natCast_nonneg _
theorem zand_1 {a : Int} (h : 0 ≤ a) : zand a 1 = a % 2 := by
  obtain ⟨x, rfl⟩ := Int.eq_ofNat_of_zero_le h
  simp [zand, Nat.and_one_is_mod]
/-- shifts -/
theorem za_c32 : ∀ k, k < 32 → ((nI k &&& 31).toBitVec.smod 32).toNat = k := by decide +kernel
theorem za_shl {a k : Int} (h0 : 0 ≤ k) (h : k < 32) : Int32.ofInt a <<< (Int32.ofInt k &&& 31) = Int32.ofInt (a * 2 ^ k.toNat) := by
  obtain ⟨x, rfl⟩ := Int.eq_ofNat_of_zero_le h0
  rw [za_nat]
  apply Int32.toBitVec.inj
  apply BitVec.eq_of_toNat_eq
  rw [pk_shl _ _ x (za_c32 x (by omega))]
  have e : Int32.ofInt (a * 2 ^ ((x : Int)).toNat) = Int32.ofInt a * Int32.ofInt ((2 ^ x : Nat) : Int) := by
    rw [za_mul]; simp
  rw [e, Int32.toBitVec_mul, BitVec.toNat_mul, za_bv, BitVec.toNat_ofNat, Nat.mul_mod_mod]
theorem za_shr {a k : Int} (ha : zr a) (h0 : 0 ≤ k) (h : k < 32) : Int32.ofInt a >>> (Int32.ofInt k &&& 31) = Int32.ofInt (a / 2 ^ k.toNat) := by
  obtain ⟨x, rfl⟩ := Int.eq_ofNat_of_zero_le h0
  rw [za_nat]
  apply Int32.toInt.inj
  rw [pk_shr _ _ x (za_c32 x (by omega)), za_to ha, Int.shiftRight_eq_div_pow, za_to]
  · simp
  · obtain ⟨h1, h2⟩ := ha
    have hp : (0 : Int) < 2 ^ x := Int.pow_pos (by decide)
    simp only [Int.toNat_natCast]
    refine ⟨?_, ?_⟩
    · rw [Int.le_ediv_iff_mul_le hp]
      have h3 : (1 : Int) ≤ 2 ^ x := by omega
      have : -2147483648 * (2 : Int) ^ x ≤ -2147483648 * 1 := Int.mul_le_mul_of_nonpos_left (by omega) h3
      omega
    · rcases Int.le_total 0 a with h | h
      · have := Int.ediv_le_self (2 ^ x) h
        omega
      · have := Int.ediv_nonpos_of_nonpos_of_neg h hp
        omega
theorem za_c64 : ∀ k, k < 64 → (((nI k).toInt64 &&& 63).toBitVec.smod 64) = BitVec.ofNat 64 k := by decide +kernel
theorem za_lshl {a k : Int} (h0 : 0 ≤ k) (h : k < 64) : Int64.ofInt a <<< ((Int32.ofInt k).toInt64 &&& 63) = Int64.ofInt (a * 2 ^ k.toNat) := by
  obtain ⟨x, rfl⟩ := Int.eq_ofNat_of_zero_le h0
  rw [za_nat]
  apply Int64.toBitVec.inj
  rw [Int64.toBitVec_shiftLeft, za_c64 x (by omega)]
  apply BitVec.eq_of_toNat_eq
  have e : Int64.ofInt (a * 2 ^ ((x : Int)).toNat) = Int64.ofInt a * Int64.ofInt ((2 ^ x : Nat) : Int) := by
    rw [za_lmul]; simp
  have hx : x % 2 ^ 64 = x := Nat.mod_eq_of_lt (by omega)
  rw [e, Int64.toBitVec_mul, BitVec.toNat_mul, za_lbv, BitVec.toNat_ofNat, Nat.mul_mod_mod, BitVec.shiftLeft_eq', BitVec.toNat_shiftLeft, BitVec.toNat_ofNat, hx, Nat.shiftLeft_eq]
theorem za_lshr {a k : Int} (ha : -9223372036854775808 ≤ a ∧ a < 9223372036854775808) (h0 : 0 ≤ k) (h : k < 64) : Int64.ofInt a >>> ((Int32.ofInt k).toInt64 &&& 63) = Int64.ofInt (a / 2 ^ k.toNat) := by
  obtain ⟨x, rfl⟩ := Int.eq_ofNat_of_zero_le h0
  rw [za_nat]
  apply Int64.toInt.inj
  have hx : x % 2 ^ 64 = x := Nat.mod_eq_of_lt (by omega)
  rw [← Int64.toInt_toBitVec, Int64.toBitVec_shiftRight, za_c64 x (by omega), BitVec.sshiftRight', BitVec.toInt_sshiftRight, BitVec.toNat_ofNat, hx, Int64.toInt_toBitVec, za_lto ha, Int.shiftRight_eq_div_pow, za_lto]
  · simp
  · obtain ⟨h1, h2⟩ := ha
    have hp : (0 : Int) < 2 ^ x := Int.pow_pos (by decide)
    simp only [Int.toNat_natCast]
    refine ⟨?_, ?_⟩
    · rw [Int.le_ediv_iff_mul_le hp]
      have h3 : (1 : Int) ≤ 2 ^ x := by omega
      have : -9223372036854775808 * (2 : Int) ^ x ≤ -9223372036854775808 * 1 := Int.mul_le_mul_of_nonpos_left (by omega) h3
      omega
    · rcases Int.le_total 0 a with h | h
      · have := Int.ediv_le_self (2 ^ x) h
        omega
      · have := Int.ediv_nonpos_of_nonpos_of_neg h hp
        omega
/-- the lowest four bits of any long -/
theorem za_l15 (a : Int) : Int64.ofInt a &&& 15 = Int64.ofInt (a % 16) := by
  have h : Int64.ofInt a = Int64.ofInt (a % 18446744073709551616) := by
    apply Int64.toBitVec.inj
    rw [Int64.toBitVec_ofInt, Int64.toBitVec_ofInt]
    apply BitVec.eq_of_toNat_eq
    rw [BitVec.toNat_ofInt, BitVec.toNat_ofInt]
    simp
  have hb := Int.emod_nonneg a (show (18446744073709551616 : Int) ≠ 0 by decide)
  rw [h, show (15 : Int64) = Int64.ofInt 15 from rfl, za_land hb (by decide)]
  obtain ⟨x, hx⟩ := Int.eq_ofNat_of_zero_le hb
  have e : a % 16 = (a % 18446744073709551616) % 16 := by omega
  rw [e, hx]
  congr 1
  have h15 : ((15 : Int).toNat) = 2 ^ 4 - 1 := rfl
  rw [zand, Int.toNat_natCast, h15, Nat.and_two_pow_sub_one_eq_mod]
  rfl
theorem za_i2l {a : Int} (h : zr a) : (Int32.ofInt a).toInt64 = Int64.ofInt a := Int32.toInt64_ofInt h.1 (by have := h.2; show a ≤ 2147483647; omega)
theorem za_l2i (a : Int) : (Int64.ofInt a).toInt32 = Int32.ofInt a := Int64.toInt32_ofInt
theorem za_i2b {a : Int} (h0 : -128 ≤ a) (h : a < 128) : (Int32.ofInt a).toInt8.toInt32 = Int32.ofInt a := by
  rw [Int32.toInt8_ofInt]
  exact Int8.toInt32_ofInt h0 (by show a ≤ 127; omega)
theorem za_bast {a : Int} (h0 : -128 ≤ a) (h : a < 128) : vp_nar .byte (Int32.ofInt a) = Int32.ofInt a := by rw [vp_nar_byte, za_i2b h0 h]
/-- longs that are the same -/
theorem za_leq {a b : Int} (ha : 0 ≤ a) (hb : 0 ≤ b) (ha' : a < 18446744073709551616) (hb' : b < 18446744073709551616) : Int64.ofInt a = Int64.ofInt b ↔ a = b := by
  refine ⟨fun h => ?_, fun h => by rw [h]⟩
  have h1 := congrArg (fun z => z.toBitVec.toNat) h
  simp only [Int64.toBitVec_ofInt, BitVec.toNat_ofInt] at h1
  omega
end
section
/-! a layer over the kit's rows: the store is a function from cell numbers to cells, values are whole numbers -/
abbrev zV : Type := Int ⊕ (Int ⊕ Nat)
abbrev zI (a : Int) : zV := Sum.inl a
abbrev zL (a : Int) : zV := Sum.inr (Sum.inl a)
abbrev zR (k : Nat) : zV := Sum.inr (Sum.inr k)
abbrev zC : Type := (Nat × List zV) ⊕ (Nat × Nat × (Int → Int))
abbrev zO (ci : Nat) (fs : List zV) : zC := Sum.inl (ci, fs)
abbrev zA (t n : Nat) (f : Int → Int) : zC := Sum.inr (t, n, f)
abbrev zS : Type := Nat → zC
/-- the addresses, the classes of arrays, the classes, the script's length and ints -/
abbrev zG : Type := (Nat → Nat) × (Nat → ClassId) × va_G × Nat × (Nat → Int32)
def zc (G : zG) : zV → Value
  | .inl a => .int (Int32.ofInt a)
  | .inr (.inl a) => .long (Int64.ofInt a)
  | .inr (.inr k) => .ref (G.1 k)
def zcr (G : zG) (t : Nat) (f : Int → Int) : (Nat → Int32) ⊕ (Nat → Int64) ⊕ (Nat → UInt32) ⊕ (Nat → UInt64) ⊕ (Nat → Option Nat) :=
  if t = 2 then .inr (.inl (fun j => Int64.ofInt (f j))) else if t = 4 then .inr (.inr (.inr (.inr (fun j => some (G.1 (f j).toNat))))) else .inl (fun j => Int32.ofInt (f j))
def zcc (G : zG) : zC → va_E
  | .inl o => .inr (o.1, o.2.map (zc G))
  | .inr a => .inl (G.2.1 a.1, a.2.1, zcr G a.1 a.2.2)
abbrev zN : Nat := 61
def zw (G : zG) (st : zS) : va_W := (List.range zN).map (fun k => (G.1 k, zcc G (st k)))
def zu (st : zS) (k : Nat) (c : zC) : zS := fun j => if j = k then c else st j
def zf (f : Int → Int) (k v : Int) : Int → Int := fun j => if j = k then v else f j
def zty (G : zG) : List (ClassId × FieldType) := [(G.2.1 0, .byte), (G.2.1 1, .int), (G.2.1 2, .long), (G.2.1 3, .boolean), (G.2.1 4, .object "TreeActs$Letters")]
def zAd (G : zG) : Nat → Prop := fun q => ∃ k, k < zN ∧ q = G.1 k
def zInj (G : zG) : Prop := ∀ i j, i < zN → j < zN → G.1 i = G.1 j → i = j
def zJ (st : zS) : Prop := ∀ k, zN ≤ k → st k = zA 99 0 (fun _ => 0)
theorem zu_eq {st : zS} {k : Nat} {c : zC} : zu st k c k = c := if_pos rfl
theorem zu_ne {st : zS} {k j : Nat} {c : zC} (h : j ≠ k) : zu st k c j = st j := if_neg h
theorem zf_eq {f : Int → Int} {k v : Int} : zf f k v k = v := if_pos rfl
theorem zf_ne {f : Int → Int} {k j v : Int} (h : j ≠ k) : zf f k v j = f j := if_neg h
theorem zw_at {G : zG} {st : zS} {k : Nat} (h : k < zN) : (zw G st)[k]? = some (G.1 k, zcc G (st k)) := by
  simp [zw, List.getElem?_map, List.getElem?_range h]
theorem zw_set {G : zG} {st : zS} {k : Nat} {c : zC} (h : k < zN) : (zw G st).set k (G.1 k, zcc G c) = zw G (zu st k c) := by
  apply List.ext_getElem?
  intro j
  by_cases hj : j = k
  · subst hj
    rw [List.getElem?_set_self (by simpa [zw] using h), zw_at h, zu_eq]
  · rw [List.getElem?_set_ne (Ne.symm hj)]
    by_cases hn : j < zN
    · rw [zw_at hn, zw_at hn, zu_ne hj]
    · rw [List.getElem?_eq_none (by simp [zw]; omega), List.getElem?_eq_none (by simp [zw]; omega)]
theorem zw_D {G : zG} {st : zS} (hi : zInj G) : va_D (zAd G) (zw G st) := by
  have key : ∀ (k : Nat) (q : Nat × va_E), (zw G st)[k]? = some q → k < zN ∧ q.1 = G.1 k := by
    intro k q hk
    have hl : k < zN := by have := (List.getElem?_eq_some_iff.mp hk).1; simpa [zw] using this
    rw [zw_at hl] at hk
    cases hk
    exact ⟨hl, rfl⟩
  refine ⟨fun i j x y hx hy hxy => ?_, fun k q hk => ?_⟩
  · obtain ⟨a, b⟩ := key i x hx
    obtain ⟨c, d⟩ := key j y hy
    exact hi i j a c (by rw [← b, ← d, hxy])
  · obtain ⟨a, b⟩ := key k q hk
    exact ⟨k, a, b⟩
theorem zJ.lt {st : zS} (h : zJ st) {k : Nat} {ci : Nat} {fs : List zV} (e : st k = zO ci fs) : k < zN := by
  rcases Nat.lt_or_ge k zN with q | q
  · exact q
  · rw [h k q] at e; cases e
theorem zJ.lta {st : zS} (h : zJ st) {k t n : Nat} {f : Int → Int} (e : st k = zA t n f) (ht : t ≠ 99) : k < zN := by
  rcases Nat.lt_or_ge k zN with q | q
  · exact q
  · rw [h k q] at e; cases e; exact absurd rfl ht
theorem zJ.set {st : zS} (h : zJ st) {k : Nat} {c : zC} (hk : k < zN) : zJ (zu st k c) := fun j hj => by rw [zu_ne (by omega)]; exact h j hj
/-- the table of the sorts -/
def zsy (j : Int) : Int := if j = 0 then 22 else if j = 1 then 7 else if j = 2 then 4 else 24
/-- links among nest mates -/
def zNW : List Cond := lw_tbl.filter (fun w => match w with | .methodLinkNest .. => true | _ => false)
def zStat (G : zG) (U : State) : Prop :=
  va_Z RX6 "SORTS_OF_YES" "[I" (.ref (G.1 90)) (zAd G) U U.heap ∧ va_T .int (G.1 90) 4 (fun j => .int (Int32.ofInt (zsy j))) (zAd G) U U.heap ∧
  va_T .int (G.1 95) G.2.2.2.1 (fun j => .int (G.2.2.2.2 j)) (zAd G) U U.heap ∧ (∀ w ∈ zNW, va_Nw w U) ∧
  vk_R RX2 45 "sfwro" (G.1 91) U ∧ vk_S 1 [5] [[115, 102, 119, 114, 111]] (fun _ => G.1 91) (fun _ => G.1 92) (zAd G) U U.heap ∧
  va_Z RJ0 "COMPACT_STRINGS" "Z" (.int 1) (zAd G) U U.heap ∧ va_Zq RJ3 "SIOOBE_FORMATTER" "Ljava/util/function/BiFunction;" (zAd G) U U.heap
abbrev zM : Type := MethodName × ByteArray × Nat × Option FieldType
def zT : List Cond := lw_tbl.filter goodWord
def zRm (d : Nat) : Room := { frames := d, cells := 0, slots := 0, locals := 40 * d }
def zcode (M : zM) : Cond := .code M.1 M.2.1 M.2.2.1 M.2.2.2
def zws (M : zM) : List Cond := zcode M :: zT
def zPre (G : zG) (st : zS) (U : State) : Prop := va_P G.2.2.1 vwCl (zw G st) U.heap ∧ va_K G.2.2.1 vwCl (zty G) U ∧ zInj G ∧ zStat G U ∧ zJ st
def zQ (G : zG) (post : Option zV → zS → Prop) : Array Value → State → Outcome → State → Prop := fun _ s0 oc t =>
  (∃ (r : Option zV) (u : zS), oc = .returned (r.map (zc G)) ∧ post r u ∧ va_P G.2.2.1 vwCl (zw G u) t.heap ∧ zJ u) ∧ va_F (zAd G) s0 t
/-- a method's contract: from the store st, with these arguments, it comes back with an answer and a store that 'post' holds of -/
def zSem (G : zG) (M : zM) (d : Nat) (av : List zV) (st : zS) (post : Option zV → zS → Prop) : Prop :=
  ∀ l : Launch, Met l M.1 (zws M) (zRm d) (va_Pc (av.map (zc G)) (zPre G st)) (zQ G post) 0 0 (zAd G)
def zFx (G : zG) (M : zM) (p : Program) (s : State) (m : MethodId) (args : Array Value) (meth : Method) (c : Code) : Prop :=
  p.tables.exec = Jvm.exec ∧ c.code = M.2.1 ∧ meth.sig.returnType = M.2.2.2 ∧ c.maxLocals = M.2.2.1 ∧ s.vm.findClass M.1.cls = some m.cls ∧ (∀ w ∈ zT, w.before args s = true) ∧ meth.locks = false ∧
  va_K G.2.2.1 vwCl (zty G) s ∧ zInj G ∧ zStat G s
def zcat (v : zV) : Nat := match v with
  | .inr (.inl _) => 2
  | _ => 1
theorem zc_cat (G : zG) (v : zV) : (zc G v).category = zcat v := by
  rcases v with a | a | a <;> rfl
def zls (G : zG) (ls : Array Slot) (n : Nat) (L : List (Option zV)) : Prop := ls.size = n ∧ lv_wf ls ∧ ∀ (i : Nat) (v : zV), L[i]? = some (some v) → ls[i]? = some (.val (zc G v))
/-- the machine at a place of a method: from here it comes to Q -/
def zW (G : zG) (M : zM) (B : Room × Nat × Nat) (Q : List Frame → Array Value → State → State → Prop) (pc : Nat) (L : List (Option zV)) (stk : List zV) (st : zS) : Prop :=
  ∀ (p : Program) (l : Launch) (e : Env) (s : State) (m : MethodId) (args : Array Value) (below : List Frame) (meth : Method) (c : Code) (H : Heap) (locs : List Loc) (ls : Array Slot),
    zFx G M p s m args meth c → zJ st → va_P G.2.2.1 vwCl (zw G st) H → va_S (zAd G) s.heap H locs → zls G ls M.2.2.1 L →
    W p l e B.1 s m args below meth c H locs B.2.1 B.2.2 (Q below args s) (F0 m pc ls (stk.map (zc G)))
def zQm (G : zG) (post : Option zV → zS → Prop) : List Frame → Array Value → State → State → Prop := fun below args s => MQ below (zQ G post) args s 0 0 (zAd G)
abbrev zWP (G : zG) (M : zM) (d : Nat) (post : Option zV → zS → Prop) (pc : Nat) (L : List (Option zV)) (stk : List zV) (st : zS) : Prop := zW G M (zRm d, 0, 0) (zQm G post) pc L stk st
/-- locals as the kit lists them -/
def zas (G : zG) : Nat → List (Option zV) → List (Nat × Value)
  | _, [] => []
  | i, none :: r => zas G (i + 1) r
  | i, some v :: r => (i, zc G v) :: zas G (i + 1) r
theorem zas_mem {G : zG} : ∀ (L : List (Option zV)) (i : Nat) (q : Nat × Value), q ∈ zas G i L ↔ ∃ (j : Nat) (v : zV), L[j]? = some (some v) ∧ q = (i + j, zc G v)
  | [], i, q => by simp [zas]
  | none :: r, i, q => by
    rw [zas, zas_mem r (i + 1) q]
    constructor
    · rintro ⟨j, v, h1, h2⟩
      exact ⟨j + 1, v, by simpa using h1, by rw [h2]; congr 1; omega⟩
    · rintro ⟨j, v, h1, h2⟩
      cases j with
      | zero => simp at h1
      | succ j => exact ⟨j, v, by simpa using h1, by rw [h2]; congr 1; omega⟩
  | some w :: r, i, q => by
    rw [zas, List.mem_cons, zas_mem r (i + 1) q]
    constructor
    · rintro (h | ⟨j, v, h1, h2⟩)
      · exact ⟨0, w, rfl, h⟩
      · exact ⟨j + 1, v, by simpa using h1, by rw [h2]; congr 1; omega⟩
    · rintro ⟨j, v, h1, h2⟩
      cases j with
      | zero => simp at h1; subst h1; exact Or.inl h2
      | succ j => exact Or.inr ⟨j, v, by simpa using h1, by rw [h2]; congr 1; omega⟩
theorem zls.has {G : zG} {ls : Array Slot} {n : Nat} {L : List (Option zV)} (h : zls G ls n L) : lv_has ls n (zas G 0 L) := by
  refine ⟨h.1, h.2.1, fun q hq => ?_⟩
  obtain ⟨j, v, h1, rfl⟩ := (zas_mem L 0 q).mp hq
  simpa using h.2.2 j v h1
/-- a store of one slot -/
theorem zls.put1 {G : zG} {ls : Array Slot} {n i : Nat} {L L' : List (Option zV)} {v : zV} (h : lv_has ls n ((i, zc G v) :: (zas G 0 L).filter (fun q => !(q.1 == i) && !(q.1 + 1 == i && q.2.category == 2))))
    (hL : ∀ (j : Nat) (w : zV), L'[j]? = some (some w) → (j = i ∧ w = v) ∨ (j ≠ i ∧ L[j]? = some (some w) ∧ (j + 1 = i → zcat w = 1))) : zls G ls n L' := by
  refine ⟨h.1, h.2.1, fun j w hj => ?_⟩
  rcases hL j w hj with ⟨rfl, rfl⟩ | ⟨h1, h2, h3⟩
  · exact h.2.2 _ List.mem_cons_self
  · refine h.2.2 (j, zc G w) (List.mem_cons_of_mem _ (List.mem_filter.mpr ⟨(zas_mem L 0 _).mpr ⟨j, w, h2, by simp⟩, ?_⟩))
    simp only [Bool.and_eq_true, Bool.not_eq_true', beq_eq_false_iff_ne, ne_eq, Bool.and_eq_false_iff]
    refine ⟨h1, ?_⟩
    by_cases hj : j + 1 = i
    · right; rw [zc_cat, h3 hj]; decide
    · left; exact hj
theorem zls.put2 {G : zG} {ls : Array Slot} {n i : Nat} {L L' : List (Option zV)} {v : zV} (h : lv_has ls n ((i, zc G v) :: (zas G 0 L).filter (fun q => !(q.1 == i) && (!(q.1 == i + 1) && !(q.1 + 1 == i && q.2.category == 2)))))
    (hL : ∀ (j : Nat) (w : zV), L'[j]? = some (some w) → (j = i ∧ w = v) ∨ (j ≠ i ∧ j ≠ i + 1 ∧ L[j]? = some (some w) ∧ (j + 1 = i → zcat w = 1))) : zls G ls n L' := by
  refine ⟨h.1, h.2.1, fun j w hj => ?_⟩
  rcases hL j w hj with ⟨rfl, rfl⟩ | ⟨h1, h1', h2, h3⟩
  · exact h.2.2 _ List.mem_cons_self
  · refine h.2.2 (j, zc G w) (List.mem_cons_of_mem _ (List.mem_filter.mpr ⟨(zas_mem L 0 _).mpr ⟨j, w, h2, by simp⟩, ?_⟩))
    simp only [Bool.and_eq_true, Bool.not_eq_true', beq_eq_false_iff_ne, ne_eq, Bool.and_eq_false_iff]
    refine ⟨h1, h1', ?_⟩
    by_cases hj : j + 1 = i
    · right; rw [zc_cat, h3 hj]; decide
    · left; exact hj
/-- the locals at a method's entry -/
def zent : List zV → List (Option zV)
  | [] => []
  | v :: r => if zcat v = 2 then some v :: none :: zent r else some v :: zent r
theorem zent_ok {G : zG} : ∀ (av : List zV) (i j : Nat) (v : zV), (zent av)[j]? = some (some v) → (i + j, zc G v) ∈ lv_args i (av.map (zc G))
  | [], i, j, v, h => by simp [zent] at h
  | w :: r, i, j, v, h => by
    rw [zent] at h
    rw [List.map_cons, lv_args]
    by_cases hc : zcat w = 2
    · rw [if_pos hc] at h
      match j, h with
      | 0, h => simp at h; subst h; simp
      | 1, h => simp at h
      | j + 2, h =>
        have := zent_ok (G := G) r (i + 2) j v (by simpa using h)
        rw [zc_cat, hc]
        simp only [List.mem_cons]
        right
        have e : i + (j + 2) = i + 2 + j := by omega
        rw [e]; exact this
    · have hc1 : zcat w = 1 := by rcases w with a | a | a <;> simp_all [zcat]
      rw [if_neg hc] at h
      match j, h with
      | 0, h => simp at h; subst h; simp
      | j + 1, h =>
        have := zent_ok (G := G) r (i + 1) j v (by simpa using h)
        rw [zc_cat, hc1]
        simp only [List.mem_cons]
        right
        have e : i + (j + 1) = i + 1 + j := by omega
        rw [e]; exact this
end
section
theorem z_lset {α : Type} {l l' : List α} (k : Nat) {v : α} (h : l.set k v = l') (j : Nat) (hj : j ≠ k) : l[j]? = l'[j]? := by
  rw [← h, List.getElem?_set_ne (Ne.symm hj)]
theorem z_lset2 {α : Type} {l l' : List α} (k : Nat) {v w : α} (h : (l.set k v).set (k + 1) w = l') (j : Nat) (hj : j ≠ k) (hj2 : j ≠ k + 1) : l[j]? = l'[j]? := by
  rw [← h, List.getElem?_set_ne (Ne.symm hj2), List.getElem?_set_ne (Ne.symm hj)]
section ZR
variable {G : zG} {M : zM} {B : Room × Nat × Nat} {Q : List Frame → Array Value → State → State → Prop} {pc n : Nat} {L : List (Option zV)} {stk : List zV} {st : zS}

theorem z_iconst {v : Int} (hd : decode M.2.1 pc = .ok (.iconst v, 1)) (hn : pc + 1 = n) (k : zW G M B Q n L (zI v :: stk) st) : zW G M B Q pc L stk st := by
  intro p l e s m args below meth c H locs ls F J P S hl
  have hx := F.1
  have hb := F.2.1
  subst hn
  have k := k p l e s m args below meth c H locs ls F J P S hl
  refine lv_iconst hx hb hd rfl ?_
  exact k

theorem z_bipush {v : Int} (hd : decode M.2.1 pc = .ok (.bipush v, 2)) (hn : pc + 2 = n) (hv : (Int8.ofInt v).toInt32 = Int32.ofInt v) (k : zW G M B Q n L (zI v :: stk) st) : zW G M B Q pc L stk st := by
  intro p l e s m args below meth c H locs ls F J P S hl
  have hx := F.1
  have hb := F.2.1
  subst hn
  have k := k p l e s m args below meth c H locs ls F J P S hl
  refine lv_bipush hx hb hd hv ?_
  exact k

theorem z_sipush {v : Int} (hd : decode M.2.1 pc = .ok (.sipush v, 3)) (hn : pc + 3 = n) (hv : (Int16.ofInt v).toInt32 = Int32.ofInt v) (k : zW G M B Q n L (zI v :: stk) st) : zW G M B Q pc L stk st := by
  intro p l e s m args below meth c H locs ls F J P S hl
  have hx := F.1
  have hb := F.2.1
  subst hn
  have k := k p l e s m args below meth c H locs ls F J P S hl
  refine lv_sipush hx hb hd hv ?_
  exact k

theorem z_ldc {ix : Nat} {v : Int} (hd : decode M.2.1 pc = .ok (.ldc ix, 2)) (hn : pc + 2 = n) (hw : Cond.constant M.1.cls ix (Int32.ofInt v) ∈ zT) (k : zW G M B Q n L (zI v :: stk) st) : zW G M B Q pc L stk st := by
  intro p l e s m args below meth c H locs ls F J P S hl
  have hx := F.1
  have hb := F.2.1
  subst hn
  have k := k p l e s m args below meth c H locs ls F J P S hl
  refine lv_ldc hx hb F.2.2.2.2.1 (F.2.2.2.2.2.1 _ hw) hd ?_
  exact k

theorem z_ldcw {ix : Nat} {v : Int} (hd : decode M.2.1 pc = .ok (.ldc_w ix, 3)) (hn : pc + 3 = n) (hw : Cond.constant M.1.cls ix (Int32.ofInt v) ∈ zT) (k : zW G M B Q n L (zI v :: stk) st) : zW G M B Q pc L stk st := by
  intro p l e s m args below meth c H locs ls F J P S hl
  have hx := F.1
  have hb := F.2.1
  subst hn
  have k := k p l e s m args below meth c H locs ls F J P S hl
  refine lv_ldcw hx hb F.2.2.2.2.1 (F.2.2.2.2.2.1 _ hw) hd ?_
  exact k

theorem z_ldc2 {ix : Nat} {v : Int} (hd : decode M.2.1 pc = .ok (.ldc2_w ix, 3)) (hn : pc + 3 = n) (hw : Cond.constantLong M.1.cls ix (Int64.ofInt v) ∈ zT) (k : zW G M B Q n L (zL v :: stk) st) : zW G M B Q pc L stk st := by
  intro p l e s m args below meth c H locs ls F J P S hl
  have hx := F.1
  have hb := F.2.1
  subst hn
  have k := k p l e s m args below meth c H locs ls F J P S hl
  refine lv_ldc2 hx hb F.2.2.2.2.1 (F.2.2.2.2.2.1 _ hw) hd ?_
  exact k

theorem z_lconst0 (hd : decode M.2.1 pc = .ok (.lconst 0, 1)) (hn : pc + 1 = n) (k : zW G M B Q n L (zL 0 :: stk) st) : zW G M B Q pc L stk st := by
  intro p l e s m args below meth c H locs ls F J P S hl
  have hx := F.1
  have hb := F.2.1
  subst hn
  have k := k p l e s m args below meth c H locs ls F J P S hl
  refine lv_lconst hx hb hd rfl ?_
  exact k

theorem z_iadd {a b : Int} (hd : decode M.2.1 pc = .ok (.iadd, 1)) (hn : pc + 1 = n) (k : zW G M B Q n L (zI (a + b) :: stk) st) : zW G M B Q pc L (zI b :: zI a :: stk) st := by
  intro p l e s m args below meth c H locs ls F J P S hl
  have hx := F.1
  have hb := F.2.1
  subst hn
  have k := k p l e s m args below meth c H locs ls F J P S hl
  refine lv_iadd hx hb hd ?_
  rw [za_add]
  exact k

theorem z_isub {a b : Int} (hd : decode M.2.1 pc = .ok (.isub, 1)) (hn : pc + 1 = n) (k : zW G M B Q n L (zI (a - b) :: stk) st) : zW G M B Q pc L (zI b :: zI a :: stk) st := by
  intro p l e s m args below meth c H locs ls F J P S hl
  have hx := F.1
  have hb := F.2.1
  subst hn
  have k := k p l e s m args below meth c H locs ls F J P S hl
  refine lv_isub hx hb hd ?_
  rw [za_sub]
  exact k

theorem z_imul {a b : Int} (hd : decode M.2.1 pc = .ok (.imul, 1)) (hn : pc + 1 = n) (k : zW G M B Q n L (zI (a * b) :: stk) st) : zW G M B Q pc L (zI b :: zI a :: stk) st := by
  intro p l e s m args below meth c H locs ls F J P S hl
  have hx := F.1
  have hb := F.2.1
  subst hn
  have k := k p l e s m args below meth c H locs ls F J P S hl
  refine lv_imul hx hb hd ?_
  rw [za_mul]
  exact k

theorem z_iand {a b : Int} (hd : decode M.2.1 pc = .ok (.iand, 1)) (hn : pc + 1 = n) (ha : 0 ≤ a) (hb0 : 0 ≤ b) (k : zW G M B Q n L (zI (zand a b) :: stk) st) : zW G M B Q pc L (zI b :: zI a :: stk) st := by
  intro p l e s m args below meth c H locs ls F J P S hl
  have hx := F.1
  have hb := F.2.1
  subst hn
  have k := k p l e s m args below meth c H locs ls F J P S hl
  refine lv_iand hx hb hd ?_
  rw [za_and ha hb0]
  exact k

theorem z_iand1 {a : Int} (hd : decode M.2.1 pc = .ok (.iand, 1)) (hn : pc + 1 = n) (ha : 0 ≤ a) (k : zW G M B Q n L (zI (a % 2) :: stk) st) : zW G M B Q pc L (zI 1 :: zI a :: stk) st := by
  intro p l e s m args below meth c H locs ls F J P S hl
  have hx := F.1
  have hb := F.2.1
  subst hn
  have k := k p l e s m args below meth c H locs ls F J P S hl
  refine lv_iand hx hb hd ?_
  rw [za_and ha (by decide), zand_1 ha]
  exact k

theorem z_iandG {a b : Int} (hd : decode M.2.1 pc = .ok (.iand, 1)) (hn : pc + 1 = n) (k : zW G M B Q n L (zI (Int32.ofInt a &&& Int32.ofInt b).toInt :: stk) st) : zW G M B Q pc L (zI b :: zI a :: stk) st := by
  intro p l e s m args below meth c H locs ls F J P S hl
  have hx := F.1
  have hb := F.2.1
  subst hn
  have k := k p l e s m args below meth c H locs ls F J P S hl
  refine lv_iand hx hb hd ?_
  rw [← Int32.ofInt_toInt (Int32.ofInt a &&& Int32.ofInt b)]
  exact k

theorem z_ixorG {a b : Int} (hd : decode M.2.1 pc = .ok (.ixor, 1)) (hn : pc + 1 = n) (k : zW G M B Q n L (zI (Int32.ofInt a ^^^ Int32.ofInt b).toInt :: stk) st) : zW G M B Q pc L (zI b :: zI a :: stk) st := by
  intro p l e s m args below meth c H locs ls F J P S hl
  have hx := F.1
  have hb := F.2.1
  subst hn
  have k := k p l e s m args below meth c H locs ls F J P S hl
  refine lv_ixor hx hb hd ?_
  rw [← Int32.ofInt_toInt (Int32.ofInt a ^^^ Int32.ofInt b)]
  exact k

theorem z_ior {a b : Int} (hd : decode M.2.1 pc = .ok (.ior, 1)) (hn : pc + 1 = n) (ha : 0 ≤ a) (hb0 : 0 ≤ b) (k : zW G M B Q n L (zI (zor a b) :: stk) st) : zW G M B Q pc L (zI b :: zI a :: stk) st := by
  intro p l e s m args below meth c H locs ls F J P S hl
  have hx := F.1
  have hb := F.2.1
  subst hn
  have k := k p l e s m args below meth c H locs ls F J P S hl
  refine lv_ior hx hb hd ?_
  rw [za_or ha hb0]
  exact k

theorem z_ixor {a b : Int} (hd : decode M.2.1 pc = .ok (.ixor, 1)) (hn : pc + 1 = n) (ha : 0 ≤ a) (hb0 : 0 ≤ b) (k : zW G M B Q n L (zI (zxor a b) :: stk) st) : zW G M B Q pc L (zI b :: zI a :: stk) st := by
  intro p l e s m args below meth c H locs ls F J P S hl
  have hx := F.1
  have hb := F.2.1
  subst hn
  have k := k p l e s m args below meth c H locs ls F J P S hl
  refine lv_ixor hx hb hd ?_
  rw [za_xor ha hb0]
  exact k

theorem z_idiv {a b : Int} (hd : decode M.2.1 pc = .ok (.idiv, 1)) (hn : pc + 1 = n) (h0 : 0 ≤ a) (h1 : a < 2147483648) (h2 : 0 < b) (h3 : b < 2147483648) (k : zW G M B Q n L (zI (a / b) :: stk) st) : zW G M B Q pc L (zI b :: zI a :: stk) st := by
  intro p l e s m args below meth c H locs ls F J P S hl
  have hx := F.1
  have hb := F.2.1
  subst hn
  have k := k p l e s m args below meth c H locs ls F J P S hl
  refine lv_idiv hx hb hd (fun h => by rw [za_eq0 ⟨by omega, by omega⟩] at h; omega) ?_
  rw [za_div h0 h1 h2 h3]
  exact k

theorem z_irem {a b : Int} (hd : decode M.2.1 pc = .ok (.irem, 1)) (hn : pc + 1 = n) (h0 : 0 ≤ a) (h1 : a < 2147483648) (h2 : 0 < b) (h3 : b < 2147483648) (k : zW G M B Q n L (zI (a % b) :: stk) st) : zW G M B Q pc L (zI b :: zI a :: stk) st := by
  intro p l e s m args below meth c H locs ls F J P S hl
  have hx := F.1
  have hb := F.2.1
  subst hn
  have k := k p l e s m args below meth c H locs ls F J P S hl
  refine lv_irem hx hb hd (fun h => by rw [za_eq0 ⟨by omega, by omega⟩] at h; omega) ?_
  rw [za_rem h0 h1 h2 h3]
  exact k

theorem z_ishl {a j : Int} (hd : decode M.2.1 pc = .ok (.ishl, 1)) (hn : pc + 1 = n) (h0 : 0 ≤ j) (h1 : j < 32) (k : zW G M B Q n L (zI (a * 2 ^ j.toNat) :: stk) st) : zW G M B Q pc L (zI j :: zI a :: stk) st := by
  intro p l e s m args below meth c H locs ls F J P S hl
  have hx := F.1
  have hb := F.2.1
  subst hn
  have k := k p l e s m args below meth c H locs ls F J P S hl
  refine lv_ishl hx hb hd ?_
  rw [za_shl h0 h1]
  exact k

theorem z_ishr {a j : Int} (hd : decode M.2.1 pc = .ok (.ishr, 1)) (hn : pc + 1 = n) (ha : zr a) (h0 : 0 ≤ j) (h1 : j < 32) (k : zW G M B Q n L (zI (a / 2 ^ j.toNat) :: stk) st) : zW G M B Q pc L (zI j :: zI a :: stk) st := by
  intro p l e s m args below meth c H locs ls F J P S hl
  have hx := F.1
  have hb := F.2.1
  subst hn
  have k := k p l e s m args below meth c H locs ls F J P S hl
  refine lv_ishr hx hb hd ?_
  rw [za_shr ha h0 h1]
  exact k

theorem z_ladd {a b : Int} (hd : decode M.2.1 pc = .ok (.ladd, 1)) (hn : pc + 1 = n) (k : zW G M B Q n L (zL (a + b) :: stk) st) : zW G M B Q pc L (zL b :: zL a :: stk) st := by
  intro p l e s m args below meth c H locs ls F J P S hl
  have hx := F.1
  have hb := F.2.1
  subst hn
  have k := k p l e s m args below meth c H locs ls F J P S hl
  refine lv_ladd hx hb hd ?_
  rw [za_ladd]
  exact k

theorem z_lmul {a b : Int} (hd : decode M.2.1 pc = .ok (.lmul, 1)) (hn : pc + 1 = n) (k : zW G M B Q n L (zL (a * b) :: stk) st) : zW G M B Q pc L (zL b :: zL a :: stk) st := by
  intro p l e s m args below meth c H locs ls F J P S hl
  have hx := F.1
  have hb := F.2.1
  subst hn
  have k := k p l e s m args below meth c H locs ls F J P S hl
  refine lv_lmul hx hb hd ?_
  rw [za_lmul]
  exact k

theorem z_land {a b : Int} (hd : decode M.2.1 pc = .ok (.land, 1)) (hn : pc + 1 = n) (ha : 0 ≤ a) (hb0 : 0 ≤ b) (k : zW G M B Q n L (zL (zand a b) :: stk) st) : zW G M B Q pc L (zL b :: zL a :: stk) st := by
  intro p l e s m args below meth c H locs ls F J P S hl
  have hx := F.1
  have hb := F.2.1
  subst hn
  have k := k p l e s m args below meth c H locs ls F J P S hl
  refine lv_land hx hb hd ?_
  rw [za_land ha hb0]
  exact k

theorem z_land15 {a : Int} (hd : decode M.2.1 pc = .ok (.land, 1)) (hn : pc + 1 = n) (k : zW G M B Q n L (zL (a % 16) :: stk) st) : zW G M B Q pc L (zL 15 :: zL a :: stk) st := by
  intro p l e s m args below meth c H locs ls F J P S hl
  have hx := F.1
  have hb := F.2.1
  subst hn
  have k := k p l e s m args below meth c H locs ls F J P S hl
  refine lv_land hx hb hd ?_
  rw [show Int64.ofInt 15 = 15 from rfl, za_l15]
  exact k

theorem z_lor {a b : Int} (hd : decode M.2.1 pc = .ok (.lor, 1)) (hn : pc + 1 = n) (ha : 0 ≤ a) (hb0 : 0 ≤ b) (k : zW G M B Q n L (zL (zor a b) :: stk) st) : zW G M B Q pc L (zL b :: zL a :: stk) st := by
  intro p l e s m args below meth c H locs ls F J P S hl
  have hx := F.1
  have hb := F.2.1
  subst hn
  have k := k p l e s m args below meth c H locs ls F J P S hl
  refine lv_lor hx hb hd ?_
  rw [za_lor ha hb0]
  exact k

theorem z_ldiv {a b : Int} (hd : decode M.2.1 pc = .ok (.ldiv, 1)) (hn : pc + 1 = n) (h0 : 0 ≤ a) (h1 : a < 9223372036854775808) (h2 : 0 < b) (h3 : b < 9223372036854775808) (k : zW G M B Q n L (zL (a / b) :: stk) st) : zW G M B Q pc L (zL b :: zL a :: stk) st := by
  intro p l e s m args below meth c H locs ls F J P S hl
  have hx := F.1
  have hb := F.2.1
  subst hn
  have k := k p l e s m args below meth c H locs ls F J P S hl
  refine lv_ldiv hx hb hd (fun h => by have h9 := congrArg Int64.toInt h; rw [za_lto ⟨by omega, by omega⟩] at h9; exact absurd h9 (by show ¬ b = 0; omega)) ?_
  rw [za_ldiv h0 h1 h2 h3]
  exact k

theorem z_lrem {a b : Int} (hd : decode M.2.1 pc = .ok (.lrem, 1)) (hn : pc + 1 = n) (h0 : 0 ≤ a) (h1 : a < 9223372036854775808) (h2 : 0 < b) (h3 : b < 9223372036854775808) (k : zW G M B Q n L (zL (a % b) :: stk) st) : zW G M B Q pc L (zL b :: zL a :: stk) st := by
  intro p l e s m args below meth c H locs ls F J P S hl
  have hx := F.1
  have hb := F.2.1
  subst hn
  have k := k p l e s m args below meth c H locs ls F J P S hl
  refine lv_lrem hx hb hd (fun h => by have h9 := congrArg Int64.toInt h; rw [za_lto ⟨by omega, by omega⟩] at h9; exact absurd h9 (by show ¬ b = 0; omega)) ?_
  rw [za_lrem h0 h1 h2 h3]
  exact k

theorem z_lshl {a j : Int} (hd : decode M.2.1 pc = .ok (.lshl, 1)) (hn : pc + 1 = n) (h0 : 0 ≤ j) (h1 : j < 64) (k : zW G M B Q n L (zL (a * 2 ^ j.toNat) :: stk) st) : zW G M B Q pc L (zI j :: zL a :: stk) st := by
  intro p l e s m args below meth c H locs ls F J P S hl
  have hx := F.1
  have hb := F.2.1
  subst hn
  have k := k p l e s m args below meth c H locs ls F J P S hl
  refine lv_lshl hx hb hd (za_lshl h0 h1) ?_
  exact k

theorem z_lshr {a j : Int} (hd : decode M.2.1 pc = .ok (.lshr, 1)) (hn : pc + 1 = n) (ha : -9223372036854775808 ≤ a ∧ a < 9223372036854775808) (h0 : 0 ≤ j) (h1 : j < 64) (k : zW G M B Q n L (zL (a / 2 ^ j.toNat) :: stk) st) : zW G M B Q pc L (zI j :: zL a :: stk) st := by
  intro p l e s m args below meth c H locs ls F J P S hl
  have hx := F.1
  have hb := F.2.1
  subst hn
  have k := k p l e s m args below meth c H locs ls F J P S hl
  refine lv_lshr hx hb hd (za_lshr ha h0 h1) ?_
  exact k

theorem z_i2l {a : Int} (hd : decode M.2.1 pc = .ok (.i2l, 1)) (hn : pc + 1 = n) (ha : zr a) (k : zW G M B Q n L (zL a :: stk) st) : zW G M B Q pc L (zI a :: stk) st := by
  intro p l e s m args below meth c H locs ls F J P S hl
  have hx := F.1
  have hb := F.2.1
  subst hn
  have k := k p l e s m args below meth c H locs ls F J P S hl
  refine lv_i2l hx hb hd (za_i2l ha) ?_
  exact k

theorem z_l2i {a : Int} (hd : decode M.2.1 pc = .ok (.l2i, 1)) (hn : pc + 1 = n) (k : zW G M B Q n L (zI a :: stk) st) : zW G M B Q pc L (zL a :: stk) st := by
  intro p l e s m args below meth c H locs ls F J P S hl
  have hx := F.1
  have hb := F.2.1
  subst hn
  have k := k p l e s m args below meth c H locs ls F J P S hl
  refine lv_l2i hx hb hd (za_l2i a) ?_
  exact k

theorem z_i2b {a : Int} (hd : decode M.2.1 pc = .ok (.i2b, 1)) (hn : pc + 1 = n) (h0 : -128 ≤ a) (h1 : a < 128) (k : zW G M B Q n L (zI a :: stk) st) : zW G M B Q pc L (zI a :: stk) st := by
  intro p l e s m args below meth c H locs ls F J P S hl
  have hx := F.1
  have hb := F.2.1
  subst hn
  have k := k p l e s m args below meth c H locs ls F J P S hl
  refine lv_i2b hx hb hd (za_i2b h0 h1) ?_
  exact k

theorem z_dup {v : zV} (hd : decode M.2.1 pc = .ok (.dup, 1)) (hn : pc + 1 = n) (hv : zcat v = 1) (k : zW G M B Q n L (v :: v :: stk) st) : zW G M B Q pc L (v :: stk) st := by
  intro p l e s m args below meth c H locs ls F J P S hl
  have hx := F.1
  have hb := F.2.1
  subst hn
  have k := k p l e s m args below meth c H locs ls F J P S hl
  refine lv_dup hx hb hd ((zc_cat G v).trans hv) ?_
  exact k

theorem z_pop {v : zV} (hd : decode M.2.1 pc = .ok (.pop, 1)) (hn : pc + 1 = n) (hv : zcat v = 1) (k : zW G M B Q n L stk st) : zW G M B Q pc L (v :: stk) st := by
  intro p l e s m args below meth c H locs ls F J P S hl
  have hx := F.1
  have hb := F.2.1
  subst hn
  have k := k p l e s m args below meth c H locs ls F J P S hl
  refine lv_pop hx hb hd ((zc_cat G v).trans hv) ?_
  exact k

theorem z_dup2 {v w : zV} (hd : decode M.2.1 pc = .ok (.dup2, 1)) (hn : pc + 1 = n) (hv : zcat v = 1) (hw : zcat w = 1) (k : zW G M B Q n L (v :: w :: v :: w :: stk) st) : zW G M B Q pc L (v :: w :: stk) st := by
  intro p l e s m args below meth c H locs ls F J P S hl
  have hx := F.1
  have hb := F.2.1
  subst hn
  have k := k p l e s m args below meth c H locs ls F J P S hl
  refine lv_dup2_11 hx hb hd ((zc_cat G v).trans hv) ((zc_cat G w).trans hw) ?_
  exact k

theorem z_goto {off : Int} (hd : decode M.2.1 pc = .ok (.goto off, 3)) (ht : (pc : Int) + off = (n : Int)) (k : zW G M B Q n L stk st) : zW G M B Q pc L stk st := by
  intro p l e s m args below meth c H locs ls F J P S hl
  have hx := F.1
  have hb := F.2.1
  refine lv_goto hx hb hd ht ?_
  exact k p l e s m args below meth c H locs ls F J P S hl

theorem z_if_eq {a : Int} {off : Int} {tg : Nat} (hd : decode M.2.1 pc = .ok (.ifCond .eq off, 3)) (hn : pc + 3 = n) (ht : (pc : Int) + off = (tg : Int)) (ha : zr a) (kt : a = 0 → zW G M B Q tg L stk st) (kf : a ≠ 0 → zW G M B Q n L stk st) : zW G M B Q pc L (zI a :: stk) st := by
  intro p l e s m args below meth c H locs ls F J P S hl
  have hx := F.1
  have hb := F.2.1
  subst hn
  exact lv_if_eq hx hb hd ht (fun h => kt ((za_eq0 ha).mp h) p l e s m args below meth c H locs ls F J P S hl) (fun h => kf (fun z => h ((za_eq0 ha).mpr z)) p l e s m args below meth c H locs ls F J P S hl)

theorem z_icmp_eq {a b : Int} {off : Int} {tg : Nat} (hd : decode M.2.1 pc = .ok (.if_icmp .eq off, 3)) (hn : pc + 3 = n) (ht : (pc : Int) + off = (tg : Int)) (ha : zr a) (hb0 : zr b) (kt : a = b → zW G M B Q tg L stk st) (kf : a ≠ b → zW G M B Q n L stk st) : zW G M B Q pc L (zI b :: zI a :: stk) st := by
  intro p l e s m args below meth c H locs ls F J P S hl
  have hx := F.1
  have hb := F.2.1
  subst hn
  exact lv_icmp_eq hx hb hd ht (fun h => kt ((za_eq ha hb0).mp h) p l e s m args below meth c H locs ls F J P S hl) (fun h => kf (fun z => h ((za_eq ha hb0).mpr z)) p l e s m args below meth c H locs ls F J P S hl)

theorem z_if_ne {a : Int} {off : Int} {tg : Nat} (hd : decode M.2.1 pc = .ok (.ifCond .ne off, 3)) (hn : pc + 3 = n) (ht : (pc : Int) + off = (tg : Int)) (ha : zr a) (kt : a ≠ 0 → zW G M B Q tg L stk st) (kf : a = 0 → zW G M B Q n L stk st) : zW G M B Q pc L (zI a :: stk) st := by
  intro p l e s m args below meth c H locs ls F J P S hl
  have hx := F.1
  have hb := F.2.1
  subst hn
  exact lv_if_ne hx hb hd ht (fun h => kt (fun z => h ((za_eq0 ha).mpr z)) p l e s m args below meth c H locs ls F J P S hl) (fun h => kf ((za_eq0 ha).mp h) p l e s m args below meth c H locs ls F J P S hl)

theorem z_icmp_ne {a b : Int} {off : Int} {tg : Nat} (hd : decode M.2.1 pc = .ok (.if_icmp .ne off, 3)) (hn : pc + 3 = n) (ht : (pc : Int) + off = (tg : Int)) (ha : zr a) (hb0 : zr b) (kt : a ≠ b → zW G M B Q tg L stk st) (kf : a = b → zW G M B Q n L stk st) : zW G M B Q pc L (zI b :: zI a :: stk) st := by
  intro p l e s m args below meth c H locs ls F J P S hl
  have hx := F.1
  have hb := F.2.1
  subst hn
  exact lv_icmp_ne hx hb hd ht (fun h => kt (fun z => h ((za_eq ha hb0).mpr z)) p l e s m args below meth c H locs ls F J P S hl) (fun h => kf ((za_eq ha hb0).mp h) p l e s m args below meth c H locs ls F J P S hl)

theorem z_if_lt {a : Int} {off : Int} {tg : Nat} (hd : decode M.2.1 pc = .ok (.ifCond .lt off, 3)) (hn : pc + 3 = n) (ht : (pc : Int) + off = (tg : Int)) (ha : zr a) (kt : a < 0 → zW G M B Q tg L stk st) (kf : 0 ≤ a → zW G M B Q n L stk st) : zW G M B Q pc L (zI a :: stk) st := by
  intro p l e s m args below meth c H locs ls F J P S hl
  have hx := F.1
  have hb := F.2.1
  subst hn
  exact lv_if_lt hx hb hd ht (fun h => kt ((za_lt0 ha).mp h) p l e s m args below meth c H locs ls F J P S hl) (fun h => kf (Int.not_lt.mp (fun z => h ((za_lt0 ha).mpr z))) p l e s m args below meth c H locs ls F J P S hl)

theorem z_icmp_lt {a b : Int} {off : Int} {tg : Nat} (hd : decode M.2.1 pc = .ok (.if_icmp .lt off, 3)) (hn : pc + 3 = n) (ht : (pc : Int) + off = (tg : Int)) (ha : zr a) (hb0 : zr b) (kt : a < b → zW G M B Q tg L stk st) (kf : b ≤ a → zW G M B Q n L stk st) : zW G M B Q pc L (zI b :: zI a :: stk) st := by
  intro p l e s m args below meth c H locs ls F J P S hl
  have hx := F.1
  have hb := F.2.1
  subst hn
  exact lv_icmp_lt hx hb hd ht (fun h => kt ((za_lt ha hb0).mp h) p l e s m args below meth c H locs ls F J P S hl) (fun h => kf (Int.not_lt.mp (fun z => h ((za_lt ha hb0).mpr z))) p l e s m args below meth c H locs ls F J P S hl)

theorem z_if_ge {a : Int} {off : Int} {tg : Nat} (hd : decode M.2.1 pc = .ok (.ifCond .ge off, 3)) (hn : pc + 3 = n) (ht : (pc : Int) + off = (tg : Int)) (ha : zr a) (kt : 0 ≤ a → zW G M B Q tg L stk st) (kf : a < 0 → zW G M B Q n L stk st) : zW G M B Q pc L (zI a :: stk) st := by
  intro p l e s m args below meth c H locs ls F J P S hl
  have hx := F.1
  have hb := F.2.1
  subst hn
  exact lv_if_ge hx hb hd ht (fun h => kt ((za_0le ha).mp h) p l e s m args below meth c H locs ls F J P S hl) (fun h => kf (Int.not_le.mp (fun z => h ((za_0le ha).mpr z))) p l e s m args below meth c H locs ls F J P S hl)

theorem z_icmp_ge {a b : Int} {off : Int} {tg : Nat} (hd : decode M.2.1 pc = .ok (.if_icmp .ge off, 3)) (hn : pc + 3 = n) (ht : (pc : Int) + off = (tg : Int)) (ha : zr a) (hb0 : zr b) (kt : b ≤ a → zW G M B Q tg L stk st) (kf : a < b → zW G M B Q n L stk st) : zW G M B Q pc L (zI b :: zI a :: stk) st := by
  intro p l e s m args below meth c H locs ls F J P S hl
  have hx := F.1
  have hb := F.2.1
  subst hn
  exact lv_icmp_ge hx hb hd ht (fun h => kt ((za_le hb0 ha).mp h) p l e s m args below meth c H locs ls F J P S hl) (fun h => kf (Int.not_le.mp (fun z => h ((za_le hb0 ha).mpr z))) p l e s m args below meth c H locs ls F J P S hl)

theorem z_if_gt {a : Int} {off : Int} {tg : Nat} (hd : decode M.2.1 pc = .ok (.ifCond .gt off, 3)) (hn : pc + 3 = n) (ht : (pc : Int) + off = (tg : Int)) (ha : zr a) (kt : 0 < a → zW G M B Q tg L stk st) (kf : a ≤ 0 → zW G M B Q n L stk st) : zW G M B Q pc L (zI a :: stk) st := by
  intro p l e s m args below meth c H locs ls F J P S hl
  have hx := F.1
  have hb := F.2.1
  subst hn
  exact lv_if_gt hx hb hd ht (fun h => kt ((za_0lt ha).mp h) p l e s m args below meth c H locs ls F J P S hl) (fun h => kf (Int.not_lt.mp (fun z => h ((za_0lt ha).mpr z))) p l e s m args below meth c H locs ls F J P S hl)

theorem z_icmp_gt {a b : Int} {off : Int} {tg : Nat} (hd : decode M.2.1 pc = .ok (.if_icmp .gt off, 3)) (hn : pc + 3 = n) (ht : (pc : Int) + off = (tg : Int)) (ha : zr a) (hb0 : zr b) (kt : b < a → zW G M B Q tg L stk st) (kf : a ≤ b → zW G M B Q n L stk st) : zW G M B Q pc L (zI b :: zI a :: stk) st := by
  intro p l e s m args below meth c H locs ls F J P S hl
  have hx := F.1
  have hb := F.2.1
  subst hn
  exact lv_icmp_gt hx hb hd ht (fun h => kt ((za_lt hb0 ha).mp h) p l e s m args below meth c H locs ls F J P S hl) (fun h => kf (Int.not_lt.mp (fun z => h ((za_lt hb0 ha).mpr z))) p l e s m args below meth c H locs ls F J P S hl)

theorem z_if_le {a : Int} {off : Int} {tg : Nat} (hd : decode M.2.1 pc = .ok (.ifCond .le off, 3)) (hn : pc + 3 = n) (ht : (pc : Int) + off = (tg : Int)) (ha : zr a) (kt : a ≤ 0 → zW G M B Q tg L stk st) (kf : 0 < a → zW G M B Q n L stk st) : zW G M B Q pc L (zI a :: stk) st := by
  intro p l e s m args below meth c H locs ls F J P S hl
  have hx := F.1
  have hb := F.2.1
  subst hn
  exact lv_if_le hx hb hd ht (fun h => kt ((za_le0 ha).mp h) p l e s m args below meth c H locs ls F J P S hl) (fun h => kf (Int.not_le.mp (fun z => h ((za_le0 ha).mpr z))) p l e s m args below meth c H locs ls F J P S hl)

theorem z_icmp_le {a b : Int} {off : Int} {tg : Nat} (hd : decode M.2.1 pc = .ok (.if_icmp .le off, 3)) (hn : pc + 3 = n) (ht : (pc : Int) + off = (tg : Int)) (ha : zr a) (hb0 : zr b) (kt : a ≤ b → zW G M B Q tg L stk st) (kf : b < a → zW G M B Q n L stk st) : zW G M B Q pc L (zI b :: zI a :: stk) st := by
  intro p l e s m args below meth c H locs ls F J P S hl
  have hx := F.1
  have hb := F.2.1
  subst hn
  exact lv_icmp_le hx hb hd ht (fun h => kt ((za_le ha hb0).mp h) p l e s m args below meth c H locs ls F J P S hl) (fun h => kf (Int.not_le.mp (fun z => h ((za_le ha hb0).mpr z))) p l e s m args below meth c H locs ls F J P S hl)

/-- 1 or 0 -/
noncomputable def zb (p : Prop) : Int := @ite Int p (Classical.propDecidable p) 1 0
theorem zb_t {p : Prop} (h : p) : zb p = 1 := if_pos h
theorem zb_f {p : Prop} (h : ¬ p) : zb p = 0 := if_neg h
theorem zb_r (p : Prop) : 0 ≤ zb p ∧ zb p ≤ 1 := by
  by_cases h : p
  · rw [zb_t h]; decide
  · rw [zb_f h]; decide
theorem zb_or (p : Prop) : zb p = 0 ∨ zb p = 1 := by
  by_cases h : p
  · rw [zb_t h]; decide
  · rw [zb_f h]; decide
theorem zb_zr (p : Prop) : zr (zb p) := by
  have := zb_r p
  exact ⟨by omega, by omega⟩
theorem zb_iff {p q : Prop} (h : p ↔ q) : zb p = zb q := by rw [propext h]
theorem zb_1 {p : Prop} : zb p = 1 ↔ p := ⟨fun h => Classical.byContradiction (fun z => by rw [zb_f z] at h; exact absurd h (by decide)), zb_t⟩
theorem zb_0 {p : Prop} : zb p = 0 ↔ ¬ p := ⟨fun h z => by rw [zb_t z] at h; exact absurd h (by decide), zb_f⟩
theorem z_ifB_eq {p : Prop} {off : Int} {tg : Nat} (hd : decode M.2.1 pc = .ok (.ifCond .eq off, 3)) (hn : pc + 3 = n) (ht : (pc : Int) + off = (tg : Int)) (kt : ¬ p → zW G M B Q tg L stk st) (kf : p → zW G M B Q n L stk st) : zW G M B Q pc L (zI (zb p) :: stk) st := z_if_eq hd hn ht (zb_zr p) (fun h => kt (zb_0.mp h)) (fun h => kf (Classical.byContradiction (fun z => h (zb_f z))))
theorem z_ifB_ne {p : Prop} {off : Int} {tg : Nat} (hd : decode M.2.1 pc = .ok (.ifCond .ne off, 3)) (hn : pc + 3 = n) (ht : (pc : Int) + off = (tg : Int)) (kt : p → zW G M B Q tg L stk st) (kf : ¬ p → zW G M B Q n L stk st) : zW G M B Q pc L (zI (zb p) :: stk) st := z_if_ne hd hn ht (zb_zr p) (fun h => kt (Classical.byContradiction (fun z => h (zb_f z)))) (fun h => kf (zb_0.mp h))

theorem z_iload_0 {r : List (Option zV)} {v : Int} (hd : decode M.2.1 pc = .ok (.iload_n 0, 1)) (hn : pc + 1 = n) (k : zW G M B Q n (some (zI v) :: r) (zI v :: stk) st) : zW G M B Q pc (some (zI v) :: r) stk st := by
  intro p l e s m args below meth c H locs ls F J P S hl
  have hx := F.1
  have hb := F.2.1
  subst hn
  have k := k p l e s m args below meth c H locs ls F J P S hl
  refine lv_iload_n (i := 0) hx hb hd rfl (hl.2.2 0 (zI v) rfl) ?_
  exact k

theorem z_istore_0 {y : Option zV} {r : List (Option zV)} {v : Int} (hd : decode M.2.1 pc = .ok (.istore_n 0, 1)) (hn : pc + 1 = n) (hL : 0 < M.2.2.1) (k : zW G M B Q n (some (zI v) :: r) stk st) : zW G M B Q pc (y :: r) (zI v :: stk) st := by
  intro p l e s m args below meth c H locs ls F J P S hl
  have hx := F.1
  have hb := F.2.1
  subst hn
  refine lv_istore_n (i := 0) hx hb hd rfl hl.has hL rfl (fun ls' hl' => ?_)
  refine k p l e s m args below meth c H locs ls' F J P S (zls.put1 (v := zI v) hl' (fun j w hj => ?_))
  by_cases hjk : j = 0
  · subst hjk
    refine Or.inl ⟨rfl, ?_⟩
    have h9 : (some (zI v)) = some w := by simpa using hj
    exact (Option.some.inj h9).symm
  · refine Or.inr ⟨hjk, ?_, (fun e => absurd e (by omega))⟩
    rw [← hj]
    exact z_lset 0 rfl j hjk

theorem z_aload_0 {r : List (Option zV)} {v : Nat} (hd : decode M.2.1 pc = .ok (.aload_n 0, 1)) (hn : pc + 1 = n) (k : zW G M B Q n (some (zR v) :: r) (zR v :: stk) st) : zW G M B Q pc (some (zR v) :: r) stk st := by
  intro p l e s m args below meth c H locs ls F J P S hl
  have hx := F.1
  have hb := F.2.1
  subst hn
  have k := k p l e s m args below meth c H locs ls F J P S hl
  refine lv_aload_n (i := 0) hx hb hd rfl (hl.2.2 0 (zR v) rfl) ?_
  exact k

theorem z_lload_0 {r : List (Option zV)} {v : Int} (hd : decode M.2.1 pc = .ok (.lload_n 0, 1)) (hn : pc + 1 = n) (k : zW G M B Q n (some (zL v) :: r) (zL v :: stk) st) : zW G M B Q pc (some (zL v) :: r) stk st := by
  intro p l e s m args below meth c H locs ls F J P S hl
  have hx := F.1
  have hb := F.2.1
  subst hn
  have k := k p l e s m args below meth c H locs ls F J P S hl
  refine lv_lload_n (i := 0) hx hb hd rfl (hl.2.2 0 (zL v) rfl) ?_
  exact k

theorem z_iinc_0 {r : List (Option zV)} {v i : Int} (hd : decode M.2.1 pc = .ok (.iinc 0 i, 3)) (hn : pc + 3 = n) (hL : 0 < M.2.2.1) (k : zW G M B Q n (some (zI (v + i)) :: r) stk st) : zW G M B Q pc (some (zI v) :: r) stk st := by
  intro p l e s m args below meth c H locs ls F J P S hl
  have hx := F.1
  have hb := F.2.1
  subst hn
  obtain ⟨q, hq⟩ := List.getElem?_of_mem ((zas_mem (G := G) _ 0 (0, zc G (zI v))).mpr ⟨0, zI v, (rfl : (some (zI v) :: r)[0]? = some (some (zI v))), by simp⟩)
  refine lv_iinc (k := q) (v := Int32.ofInt (v + i)) hx hb hd hl.has hq (za_add v i) hL rfl (fun ls' hl' => ?_)
  refine k p l e s m args below meth c H locs ls' F J P S (zls.put1 (v := zI (v + i)) hl' (fun j w hj => ?_))
  by_cases hjk : j = 0
  · subst hjk
    refine Or.inl ⟨rfl, ?_⟩
    have h9 : (some (zI (v + i))) = some w := by simpa using hj
    exact (Option.some.inj h9).symm
  · refine Or.inr ⟨hjk, ?_, (fun e => absurd e (by omega))⟩
    rw [← hj]
    exact z_lset 0 rfl j hjk

theorem z_iload_1 {x0 : Option zV} {r : List (Option zV)} {v : Int} (hd : decode M.2.1 pc = .ok (.iload_n 1, 1)) (hn : pc + 1 = n) (k : zW G M B Q n (x0 :: some (zI v) :: r) (zI v :: stk) st) : zW G M B Q pc (x0 :: some (zI v) :: r) stk st := by
  intro p l e s m args below meth c H locs ls F J P S hl
  have hx := F.1
  have hb := F.2.1
  subst hn
  have k := k p l e s m args below meth c H locs ls F J P S hl
  refine lv_iload_n (i := 1) hx hb hd rfl (hl.2.2 1 (zI v) rfl) ?_
  exact k

theorem z_istore_1 {x0 : Option zV} {y : Option zV} {r : List (Option zV)} {v : Int} (hd : decode M.2.1 pc = .ok (.istore_n 1, 1)) (hn : pc + 1 = n) (hL : 1 < M.2.2.1) (hc : ∀ w, x0 = some w → zcat w = 1) (k : zW G M B Q n (x0 :: some (zI v) :: r) stk st) : zW G M B Q pc (x0 :: y :: r) (zI v :: stk) st := by
  intro p l e s m args below meth c H locs ls F J P S hl
  have hx := F.1
  have hb := F.2.1
  subst hn
  refine lv_istore_n (i := 1) hx hb hd rfl hl.has hL rfl (fun ls' hl' => ?_)
  refine k p l e s m args below meth c H locs ls' F J P S (zls.put1 (v := zI v) hl' (fun j w hj => ?_))
  by_cases hjk : j = 1
  · subst hjk
    refine Or.inl ⟨rfl, ?_⟩
    have h9 : (some (zI v)) = some w := by simpa using hj
    exact (Option.some.inj h9).symm
  · refine Or.inr ⟨hjk, ?_, (fun e => hc w (by have e2 : j = 0 := (by omega); subst e2; simpa using hj))⟩
    rw [← hj]
    exact z_lset 1 rfl j hjk

theorem z_aload_1 {x0 : Option zV} {r : List (Option zV)} {v : Nat} (hd : decode M.2.1 pc = .ok (.aload_n 1, 1)) (hn : pc + 1 = n) (k : zW G M B Q n (x0 :: some (zR v) :: r) (zR v :: stk) st) : zW G M B Q pc (x0 :: some (zR v) :: r) stk st := by
  intro p l e s m args below meth c H locs ls F J P S hl
  have hx := F.1
  have hb := F.2.1
  subst hn
  have k := k p l e s m args below meth c H locs ls F J P S hl
  refine lv_aload_n (i := 1) hx hb hd rfl (hl.2.2 1 (zR v) rfl) ?_
  exact k

theorem z_astore_1 {x0 : Option zV} {y : Option zV} {r : List (Option zV)} {v : Nat} (hd : decode M.2.1 pc = .ok (.astore_n 1, 1)) (hn : pc + 1 = n) (hL : 1 < M.2.2.1) (hc : ∀ w, x0 = some w → zcat w = 1) (k : zW G M B Q n (x0 :: some (zR v) :: r) stk st) : zW G M B Q pc (x0 :: y :: r) (zR v :: stk) st := by
  intro p l e s m args below meth c H locs ls F J P S hl
  have hx := F.1
  have hb := F.2.1
  subst hn
  refine lv_astore_n (i := 1) hx hb hd rfl hl.has hL rfl (fun ls' hl' => ?_)
  refine k p l e s m args below meth c H locs ls' F J P S (zls.put1 (v := zR v) hl' (fun j w hj => ?_))
  by_cases hjk : j = 1
  · subst hjk
    refine Or.inl ⟨rfl, ?_⟩
    have h9 : (some (zR v)) = some w := by simpa using hj
    exact (Option.some.inj h9).symm
  · refine Or.inr ⟨hjk, ?_, (fun e => hc w (by have e2 : j = 0 := (by omega); subst e2; simpa using hj))⟩
    rw [← hj]
    exact z_lset 1 rfl j hjk

theorem z_lload_1 {x0 : Option zV} {r : List (Option zV)} {v : Int} (hd : decode M.2.1 pc = .ok (.lload_n 1, 1)) (hn : pc + 1 = n) (k : zW G M B Q n (x0 :: some (zL v) :: r) (zL v :: stk) st) : zW G M B Q pc (x0 :: some (zL v) :: r) stk st := by
  intro p l e s m args below meth c H locs ls F J P S hl
  have hx := F.1
  have hb := F.2.1
  subst hn
  have k := k p l e s m args below meth c H locs ls F J P S hl
  refine lv_lload_n (i := 1) hx hb hd rfl (hl.2.2 1 (zL v) rfl) ?_
  exact k

theorem z_lstore_1 {x0 : Option zV} {y y2 : Option zV} {r : List (Option zV)} {v : Int} (hd : decode M.2.1 pc = .ok (.lstore_n 1, 1)) (hn : pc + 1 = n) (hL : 1 + 1 < M.2.2.1) (hc : ∀ w, x0 = some w → zcat w = 1) (k : zW G M B Q n (x0 :: some (zL v) :: none :: r) stk st) : zW G M B Q pc (x0 :: y :: y2 :: r) (zL v :: stk) st := by
  intro p l e s m args below meth c H locs ls F J P S hl
  have hx := F.1
  have hb := F.2.1
  subst hn
  refine lv_lstore_n (i := 1) hx hb hd rfl hl.has hL rfl (fun ls' hl' => ?_)
  refine k p l e s m args below meth c H locs ls' F J P S (zls.put2 (v := zL v) hl' (fun j w hj => ?_))
  by_cases hjk : j = 1
  · subst hjk
    refine Or.inl ⟨rfl, ?_⟩
    have h9 : (some (zL v)) = some w := by simpa using hj
    exact (Option.some.inj h9).symm
  · by_cases hj2 : j = 1 + 1
    · subst hj2
      have h9 : (none : Option zV) = some w := by simpa using hj
      cases h9
    · refine Or.inr ⟨hjk, hj2, ?_, (fun e => hc w (by have e2 : j = 0 := (by omega); subst e2; simpa using hj))⟩
      rw [← hj]
      exact z_lset2 1 rfl j hjk hj2

theorem z_iinc_1 {x0 : Option zV} {r : List (Option zV)} {v i : Int} (hd : decode M.2.1 pc = .ok (.iinc 1 i, 3)) (hn : pc + 3 = n) (hL : 1 < M.2.2.1) (hc : ∀ w, x0 = some w → zcat w = 1) (k : zW G M B Q n (x0 :: some (zI (v + i)) :: r) stk st) : zW G M B Q pc (x0 :: some (zI v) :: r) stk st := by
  intro p l e s m args below meth c H locs ls F J P S hl
  have hx := F.1
  have hb := F.2.1
  subst hn
  obtain ⟨q, hq⟩ := List.getElem?_of_mem ((zas_mem (G := G) _ 0 (1, zc G (zI v))).mpr ⟨1, zI v, (rfl : (x0 :: some (zI v) :: r)[1]? = some (some (zI v))), by simp⟩)
  refine lv_iinc (k := q) (v := Int32.ofInt (v + i)) hx hb hd hl.has hq (za_add v i) hL rfl (fun ls' hl' => ?_)
  refine k p l e s m args below meth c H locs ls' F J P S (zls.put1 (v := zI (v + i)) hl' (fun j w hj => ?_))
  by_cases hjk : j = 1
  · subst hjk
    refine Or.inl ⟨rfl, ?_⟩
    have h9 : (some (zI (v + i))) = some w := by simpa using hj
    exact (Option.some.inj h9).symm
  · refine Or.inr ⟨hjk, ?_, (fun e => hc w (by have e2 : j = 0 := (by omega); subst e2; simpa using hj))⟩
    rw [← hj]
    exact z_lset 1 rfl j hjk

theorem z_iload_2 {x0 x1 : Option zV} {r : List (Option zV)} {v : Int} (hd : decode M.2.1 pc = .ok (.iload_n 2, 1)) (hn : pc + 1 = n) (k : zW G M B Q n (x0 :: x1 :: some (zI v) :: r) (zI v :: stk) st) : zW G M B Q pc (x0 :: x1 :: some (zI v) :: r) stk st := by
  intro p l e s m args below meth c H locs ls F J P S hl
  have hx := F.1
  have hb := F.2.1
  subst hn
  have k := k p l e s m args below meth c H locs ls F J P S hl
  refine lv_iload_n (i := 2) hx hb hd rfl (hl.2.2 2 (zI v) rfl) ?_
  exact k

theorem z_istore_2 {x0 x1 : Option zV} {y : Option zV} {r : List (Option zV)} {v : Int} (hd : decode M.2.1 pc = .ok (.istore_n 2, 1)) (hn : pc + 1 = n) (hL : 2 < M.2.2.1) (hc : ∀ w, x1 = some w → zcat w = 1) (k : zW G M B Q n (x0 :: x1 :: some (zI v) :: r) stk st) : zW G M B Q pc (x0 :: x1 :: y :: r) (zI v :: stk) st := by
  intro p l e s m args below meth c H locs ls F J P S hl
  have hx := F.1
  have hb := F.2.1
  subst hn
  refine lv_istore_n (i := 2) hx hb hd rfl hl.has hL rfl (fun ls' hl' => ?_)
  refine k p l e s m args below meth c H locs ls' F J P S (zls.put1 (v := zI v) hl' (fun j w hj => ?_))
  by_cases hjk : j = 2
  · subst hjk
    refine Or.inl ⟨rfl, ?_⟩
    have h9 : (some (zI v)) = some w := by simpa using hj
    exact (Option.some.inj h9).symm
  · refine Or.inr ⟨hjk, ?_, (fun e => hc w (by have e2 : j = 1 := (by omega); subst e2; simpa using hj))⟩
    rw [← hj]
    exact z_lset 2 rfl j hjk

theorem z_aload_2 {x0 x1 : Option zV} {r : List (Option zV)} {v : Nat} (hd : decode M.2.1 pc = .ok (.aload_n 2, 1)) (hn : pc + 1 = n) (k : zW G M B Q n (x0 :: x1 :: some (zR v) :: r) (zR v :: stk) st) : zW G M B Q pc (x0 :: x1 :: some (zR v) :: r) stk st := by
  intro p l e s m args below meth c H locs ls F J P S hl
  have hx := F.1
  have hb := F.2.1
  subst hn
  have k := k p l e s m args below meth c H locs ls F J P S hl
  refine lv_aload_n (i := 2) hx hb hd rfl (hl.2.2 2 (zR v) rfl) ?_
  exact k

theorem z_astore_2 {x0 x1 : Option zV} {y : Option zV} {r : List (Option zV)} {v : Nat} (hd : decode M.2.1 pc = .ok (.astore_n 2, 1)) (hn : pc + 1 = n) (hL : 2 < M.2.2.1) (hc : ∀ w, x1 = some w → zcat w = 1) (k : zW G M B Q n (x0 :: x1 :: some (zR v) :: r) stk st) : zW G M B Q pc (x0 :: x1 :: y :: r) (zR v :: stk) st := by
  intro p l e s m args below meth c H locs ls F J P S hl
  have hx := F.1
  have hb := F.2.1
  subst hn
  refine lv_astore_n (i := 2) hx hb hd rfl hl.has hL rfl (fun ls' hl' => ?_)
  refine k p l e s m args below meth c H locs ls' F J P S (zls.put1 (v := zR v) hl' (fun j w hj => ?_))
  by_cases hjk : j = 2
  · subst hjk
    refine Or.inl ⟨rfl, ?_⟩
    have h9 : (some (zR v)) = some w := by simpa using hj
    exact (Option.some.inj h9).symm
  · refine Or.inr ⟨hjk, ?_, (fun e => hc w (by have e2 : j = 1 := (by omega); subst e2; simpa using hj))⟩
    rw [← hj]
    exact z_lset 2 rfl j hjk

theorem z_lload_2 {x0 x1 : Option zV} {r : List (Option zV)} {v : Int} (hd : decode M.2.1 pc = .ok (.lload_n 2, 1)) (hn : pc + 1 = n) (k : zW G M B Q n (x0 :: x1 :: some (zL v) :: r) (zL v :: stk) st) : zW G M B Q pc (x0 :: x1 :: some (zL v) :: r) stk st := by
  intro p l e s m args below meth c H locs ls F J P S hl
  have hx := F.1
  have hb := F.2.1
  subst hn
  have k := k p l e s m args below meth c H locs ls F J P S hl
  refine lv_lload_n (i := 2) hx hb hd rfl (hl.2.2 2 (zL v) rfl) ?_
  exact k

theorem z_lstore_2 {x0 x1 : Option zV} {y y2 : Option zV} {r : List (Option zV)} {v : Int} (hd : decode M.2.1 pc = .ok (.lstore_n 2, 1)) (hn : pc + 1 = n) (hL : 2 + 1 < M.2.2.1) (hc : ∀ w, x1 = some w → zcat w = 1) (k : zW G M B Q n (x0 :: x1 :: some (zL v) :: none :: r) stk st) : zW G M B Q pc (x0 :: x1 :: y :: y2 :: r) (zL v :: stk) st := by
  intro p l e s m args below meth c H locs ls F J P S hl
  have hx := F.1
  have hb := F.2.1
  subst hn
  refine lv_lstore_n (i := 2) hx hb hd rfl hl.has hL rfl (fun ls' hl' => ?_)
  refine k p l e s m args below meth c H locs ls' F J P S (zls.put2 (v := zL v) hl' (fun j w hj => ?_))
  by_cases hjk : j = 2
  · subst hjk
    refine Or.inl ⟨rfl, ?_⟩
    have h9 : (some (zL v)) = some w := by simpa using hj
    exact (Option.some.inj h9).symm
  · by_cases hj2 : j = 2 + 1
    · subst hj2
      have h9 : (none : Option zV) = some w := by simpa using hj
      cases h9
    · refine Or.inr ⟨hjk, hj2, ?_, (fun e => hc w (by have e2 : j = 1 := (by omega); subst e2; simpa using hj))⟩
      rw [← hj]
      exact z_lset2 2 rfl j hjk hj2

theorem z_iinc_2 {x0 x1 : Option zV} {r : List (Option zV)} {v i : Int} (hd : decode M.2.1 pc = .ok (.iinc 2 i, 3)) (hn : pc + 3 = n) (hL : 2 < M.2.2.1) (hc : ∀ w, x1 = some w → zcat w = 1) (k : zW G M B Q n (x0 :: x1 :: some (zI (v + i)) :: r) stk st) : zW G M B Q pc (x0 :: x1 :: some (zI v) :: r) stk st := by
  intro p l e s m args below meth c H locs ls F J P S hl
  have hx := F.1
  have hb := F.2.1
  subst hn
  obtain ⟨q, hq⟩ := List.getElem?_of_mem ((zas_mem (G := G) _ 0 (2, zc G (zI v))).mpr ⟨2, zI v, (rfl : (x0 :: x1 :: some (zI v) :: r)[2]? = some (some (zI v))), by simp⟩)
  refine lv_iinc (k := q) (v := Int32.ofInt (v + i)) hx hb hd hl.has hq (za_add v i) hL rfl (fun ls' hl' => ?_)
  refine k p l e s m args below meth c H locs ls' F J P S (zls.put1 (v := zI (v + i)) hl' (fun j w hj => ?_))
  by_cases hjk : j = 2
  · subst hjk
    refine Or.inl ⟨rfl, ?_⟩
    have h9 : (some (zI (v + i))) = some w := by simpa using hj
    exact (Option.some.inj h9).symm
  · refine Or.inr ⟨hjk, ?_, (fun e => hc w (by have e2 : j = 1 := (by omega); subst e2; simpa using hj))⟩
    rw [← hj]
    exact z_lset 2 rfl j hjk

theorem z_iload_3 {x0 x1 x2 : Option zV} {r : List (Option zV)} {v : Int} (hd : decode M.2.1 pc = .ok (.iload_n 3, 1)) (hn : pc + 1 = n) (k : zW G M B Q n (x0 :: x1 :: x2 :: some (zI v) :: r) (zI v :: stk) st) : zW G M B Q pc (x0 :: x1 :: x2 :: some (zI v) :: r) stk st := by
  intro p l e s m args below meth c H locs ls F J P S hl
  have hx := F.1
  have hb := F.2.1
  subst hn
  have k := k p l e s m args below meth c H locs ls F J P S hl
  refine lv_iload_n (i := 3) hx hb hd rfl (hl.2.2 3 (zI v) rfl) ?_
  exact k

theorem z_istore_3 {x0 x1 x2 : Option zV} {y : Option zV} {r : List (Option zV)} {v : Int} (hd : decode M.2.1 pc = .ok (.istore_n 3, 1)) (hn : pc + 1 = n) (hL : 3 < M.2.2.1) (hc : ∀ w, x2 = some w → zcat w = 1) (k : zW G M B Q n (x0 :: x1 :: x2 :: some (zI v) :: r) stk st) : zW G M B Q pc (x0 :: x1 :: x2 :: y :: r) (zI v :: stk) st := by
  intro p l e s m args below meth c H locs ls F J P S hl
  have hx := F.1
  have hb := F.2.1
  subst hn
  refine lv_istore_n (i := 3) hx hb hd rfl hl.has hL rfl (fun ls' hl' => ?_)
  refine k p l e s m args below meth c H locs ls' F J P S (zls.put1 (v := zI v) hl' (fun j w hj => ?_))
  by_cases hjk : j = 3
  · subst hjk
    refine Or.inl ⟨rfl, ?_⟩
    have h9 : (some (zI v)) = some w := by simpa using hj
    exact (Option.some.inj h9).symm
  · refine Or.inr ⟨hjk, ?_, (fun e => hc w (by have e2 : j = 2 := (by omega); subst e2; simpa using hj))⟩
    rw [← hj]
    exact z_lset 3 rfl j hjk

theorem z_aload_3 {x0 x1 x2 : Option zV} {r : List (Option zV)} {v : Nat} (hd : decode M.2.1 pc = .ok (.aload_n 3, 1)) (hn : pc + 1 = n) (k : zW G M B Q n (x0 :: x1 :: x2 :: some (zR v) :: r) (zR v :: stk) st) : zW G M B Q pc (x0 :: x1 :: x2 :: some (zR v) :: r) stk st := by
  intro p l e s m args below meth c H locs ls F J P S hl
  have hx := F.1
  have hb := F.2.1
  subst hn
  have k := k p l e s m args below meth c H locs ls F J P S hl
  refine lv_aload_n (i := 3) hx hb hd rfl (hl.2.2 3 (zR v) rfl) ?_
  exact k

theorem z_astore_3 {x0 x1 x2 : Option zV} {y : Option zV} {r : List (Option zV)} {v : Nat} (hd : decode M.2.1 pc = .ok (.astore_n 3, 1)) (hn : pc + 1 = n) (hL : 3 < M.2.2.1) (hc : ∀ w, x2 = some w → zcat w = 1) (k : zW G M B Q n (x0 :: x1 :: x2 :: some (zR v) :: r) stk st) : zW G M B Q pc (x0 :: x1 :: x2 :: y :: r) (zR v :: stk) st := by
  intro p l e s m args below meth c H locs ls F J P S hl
  have hx := F.1
  have hb := F.2.1
  subst hn
  refine lv_astore_n (i := 3) hx hb hd rfl hl.has hL rfl (fun ls' hl' => ?_)
  refine k p l e s m args below meth c H locs ls' F J P S (zls.put1 (v := zR v) hl' (fun j w hj => ?_))
  by_cases hjk : j = 3
  · subst hjk
    refine Or.inl ⟨rfl, ?_⟩
    have h9 : (some (zR v)) = some w := by simpa using hj
    exact (Option.some.inj h9).symm
  · refine Or.inr ⟨hjk, ?_, (fun e => hc w (by have e2 : j = 2 := (by omega); subst e2; simpa using hj))⟩
    rw [← hj]
    exact z_lset 3 rfl j hjk

theorem z_lload_3 {x0 x1 x2 : Option zV} {r : List (Option zV)} {v : Int} (hd : decode M.2.1 pc = .ok (.lload_n 3, 1)) (hn : pc + 1 = n) (k : zW G M B Q n (x0 :: x1 :: x2 :: some (zL v) :: r) (zL v :: stk) st) : zW G M B Q pc (x0 :: x1 :: x2 :: some (zL v) :: r) stk st := by
  intro p l e s m args below meth c H locs ls F J P S hl
  have hx := F.1
  have hb := F.2.1
  subst hn
  have k := k p l e s m args below meth c H locs ls F J P S hl
  refine lv_lload_n (i := 3) hx hb hd rfl (hl.2.2 3 (zL v) rfl) ?_
  exact k

theorem z_lstore_3 {x0 x1 x2 : Option zV} {y y2 : Option zV} {r : List (Option zV)} {v : Int} (hd : decode M.2.1 pc = .ok (.lstore_n 3, 1)) (hn : pc + 1 = n) (hL : 3 + 1 < M.2.2.1) (hc : ∀ w, x2 = some w → zcat w = 1) (k : zW G M B Q n (x0 :: x1 :: x2 :: some (zL v) :: none :: r) stk st) : zW G M B Q pc (x0 :: x1 :: x2 :: y :: y2 :: r) (zL v :: stk) st := by
  intro p l e s m args below meth c H locs ls F J P S hl
  have hx := F.1
  have hb := F.2.1
  subst hn
  refine lv_lstore_n (i := 3) hx hb hd rfl hl.has hL rfl (fun ls' hl' => ?_)
  refine k p l e s m args below meth c H locs ls' F J P S (zls.put2 (v := zL v) hl' (fun j w hj => ?_))
  by_cases hjk : j = 3
  · subst hjk
    refine Or.inl ⟨rfl, ?_⟩
    have h9 : (some (zL v)) = some w := by simpa using hj
    exact (Option.some.inj h9).symm
  · by_cases hj2 : j = 3 + 1
    · subst hj2
      have h9 : (none : Option zV) = some w := by simpa using hj
      cases h9
    · refine Or.inr ⟨hjk, hj2, ?_, (fun e => hc w (by have e2 : j = 2 := (by omega); subst e2; simpa using hj))⟩
      rw [← hj]
      exact z_lset2 3 rfl j hjk hj2

theorem z_iinc_3 {x0 x1 x2 : Option zV} {r : List (Option zV)} {v i : Int} (hd : decode M.2.1 pc = .ok (.iinc 3 i, 3)) (hn : pc + 3 = n) (hL : 3 < M.2.2.1) (hc : ∀ w, x2 = some w → zcat w = 1) (k : zW G M B Q n (x0 :: x1 :: x2 :: some (zI (v + i)) :: r) stk st) : zW G M B Q pc (x0 :: x1 :: x2 :: some (zI v) :: r) stk st := by
  intro p l e s m args below meth c H locs ls F J P S hl
  have hx := F.1
  have hb := F.2.1
  subst hn
  obtain ⟨q, hq⟩ := List.getElem?_of_mem ((zas_mem (G := G) _ 0 (3, zc G (zI v))).mpr ⟨3, zI v, (rfl : (x0 :: x1 :: x2 :: some (zI v) :: r)[3]? = some (some (zI v))), by simp⟩)
  refine lv_iinc (k := q) (v := Int32.ofInt (v + i)) hx hb hd hl.has hq (za_add v i) hL rfl (fun ls' hl' => ?_)
  refine k p l e s m args below meth c H locs ls' F J P S (zls.put1 (v := zI (v + i)) hl' (fun j w hj => ?_))
  by_cases hjk : j = 3
  · subst hjk
    refine Or.inl ⟨rfl, ?_⟩
    have h9 : (some (zI (v + i))) = some w := by simpa using hj
    exact (Option.some.inj h9).symm
  · refine Or.inr ⟨hjk, ?_, (fun e => hc w (by have e2 : j = 2 := (by omega); subst e2; simpa using hj))⟩
    rw [← hj]
    exact z_lset 3 rfl j hjk

theorem z_iload_4 {x0 x1 x2 x3 : Option zV} {r : List (Option zV)} {v : Int} (hd : decode M.2.1 pc = .ok (.iload 4, 2)) (hn : pc + 2 = n) (k : zW G M B Q n (x0 :: x1 :: x2 :: x3 :: some (zI v) :: r) (zI v :: stk) st) : zW G M B Q pc (x0 :: x1 :: x2 :: x3 :: some (zI v) :: r) stk st := by
  intro p l e s m args below meth c H locs ls F J P S hl
  have hx := F.1
  have hb := F.2.1
  subst hn
  have k := k p l e s m args below meth c H locs ls F J P S hl
  refine lv_iload hx hb hd (hl.2.2 4 (zI v) rfl) ?_
  exact k

theorem z_istore_4 {x0 x1 x2 x3 : Option zV} {y : Option zV} {r : List (Option zV)} {v : Int} (hd : decode M.2.1 pc = .ok (.istore 4, 2)) (hn : pc + 2 = n) (hL : 4 < M.2.2.1) (hc : ∀ w, x3 = some w → zcat w = 1) (k : zW G M B Q n (x0 :: x1 :: x2 :: x3 :: some (zI v) :: r) stk st) : zW G M B Q pc (x0 :: x1 :: x2 :: x3 :: y :: r) (zI v :: stk) st := by
  intro p l e s m args below meth c H locs ls F J P S hl
  have hx := F.1
  have hb := F.2.1
  subst hn
  refine lv_istore hx hb hd hl.has hL rfl (fun ls' hl' => ?_)
  refine k p l e s m args below meth c H locs ls' F J P S (zls.put1 (v := zI v) hl' (fun j w hj => ?_))
  by_cases hjk : j = 4
  · subst hjk
    refine Or.inl ⟨rfl, ?_⟩
    have h9 : (some (zI v)) = some w := by simpa using hj
    exact (Option.some.inj h9).symm
  · refine Or.inr ⟨hjk, ?_, (fun e => hc w (by have e2 : j = 3 := (by omega); subst e2; simpa using hj))⟩
    rw [← hj]
    exact z_lset 4 rfl j hjk

theorem z_aload_4 {x0 x1 x2 x3 : Option zV} {r : List (Option zV)} {v : Nat} (hd : decode M.2.1 pc = .ok (.aload 4, 2)) (hn : pc + 2 = n) (k : zW G M B Q n (x0 :: x1 :: x2 :: x3 :: some (zR v) :: r) (zR v :: stk) st) : zW G M B Q pc (x0 :: x1 :: x2 :: x3 :: some (zR v) :: r) stk st := by
  intro p l e s m args below meth c H locs ls F J P S hl
  have hx := F.1
  have hb := F.2.1
  subst hn
  have k := k p l e s m args below meth c H locs ls F J P S hl
  refine lv_aload hx hb hd (hl.2.2 4 (zR v) rfl) ?_
  exact k

theorem z_astore_4 {x0 x1 x2 x3 : Option zV} {y : Option zV} {r : List (Option zV)} {v : Nat} (hd : decode M.2.1 pc = .ok (.astore 4, 2)) (hn : pc + 2 = n) (hL : 4 < M.2.2.1) (hc : ∀ w, x3 = some w → zcat w = 1) (k : zW G M B Q n (x0 :: x1 :: x2 :: x3 :: some (zR v) :: r) stk st) : zW G M B Q pc (x0 :: x1 :: x2 :: x3 :: y :: r) (zR v :: stk) st := by
  intro p l e s m args below meth c H locs ls F J P S hl
  have hx := F.1
  have hb := F.2.1
  subst hn
  refine lv_astore hx hb hd hl.has hL rfl (fun ls' hl' => ?_)
  refine k p l e s m args below meth c H locs ls' F J P S (zls.put1 (v := zR v) hl' (fun j w hj => ?_))
  by_cases hjk : j = 4
  · subst hjk
    refine Or.inl ⟨rfl, ?_⟩
    have h9 : (some (zR v)) = some w := by simpa using hj
    exact (Option.some.inj h9).symm
  · refine Or.inr ⟨hjk, ?_, (fun e => hc w (by have e2 : j = 3 := (by omega); subst e2; simpa using hj))⟩
    rw [← hj]
    exact z_lset 4 rfl j hjk

theorem z_lload_4 {x0 x1 x2 x3 : Option zV} {r : List (Option zV)} {v : Int} (hd : decode M.2.1 pc = .ok (.lload 4, 2)) (hn : pc + 2 = n) (k : zW G M B Q n (x0 :: x1 :: x2 :: x3 :: some (zL v) :: r) (zL v :: stk) st) : zW G M B Q pc (x0 :: x1 :: x2 :: x3 :: some (zL v) :: r) stk st := by
  intro p l e s m args below meth c H locs ls F J P S hl
  have hx := F.1
  have hb := F.2.1
  subst hn
  have k := k p l e s m args below meth c H locs ls F J P S hl
  refine lv_lload hx hb hd (hl.2.2 4 (zL v) rfl) ?_
  exact k

theorem z_lstore_4 {x0 x1 x2 x3 : Option zV} {y y2 : Option zV} {r : List (Option zV)} {v : Int} (hd : decode M.2.1 pc = .ok (.lstore 4, 2)) (hn : pc + 2 = n) (hL : 4 + 1 < M.2.2.1) (hc : ∀ w, x3 = some w → zcat w = 1) (k : zW G M B Q n (x0 :: x1 :: x2 :: x3 :: some (zL v) :: none :: r) stk st) : zW G M B Q pc (x0 :: x1 :: x2 :: x3 :: y :: y2 :: r) (zL v :: stk) st := by
  intro p l e s m args below meth c H locs ls F J P S hl
  have hx := F.1
  have hb := F.2.1
  subst hn
  refine lv_lstore hx hb hd hl.has hL rfl (fun ls' hl' => ?_)
  refine k p l e s m args below meth c H locs ls' F J P S (zls.put2 (v := zL v) hl' (fun j w hj => ?_))
  by_cases hjk : j = 4
  · subst hjk
    refine Or.inl ⟨rfl, ?_⟩
    have h9 : (some (zL v)) = some w := by simpa using hj
    exact (Option.some.inj h9).symm
  · by_cases hj2 : j = 4 + 1
    · subst hj2
      have h9 : (none : Option zV) = some w := by simpa using hj
      cases h9
    · refine Or.inr ⟨hjk, hj2, ?_, (fun e => hc w (by have e2 : j = 3 := (by omega); subst e2; simpa using hj))⟩
      rw [← hj]
      exact z_lset2 4 rfl j hjk hj2

theorem z_iinc_4 {x0 x1 x2 x3 : Option zV} {r : List (Option zV)} {v i : Int} (hd : decode M.2.1 pc = .ok (.iinc 4 i, 3)) (hn : pc + 3 = n) (hL : 4 < M.2.2.1) (hc : ∀ w, x3 = some w → zcat w = 1) (k : zW G M B Q n (x0 :: x1 :: x2 :: x3 :: some (zI (v + i)) :: r) stk st) : zW G M B Q pc (x0 :: x1 :: x2 :: x3 :: some (zI v) :: r) stk st := by
  intro p l e s m args below meth c H locs ls F J P S hl
  have hx := F.1
  have hb := F.2.1
  subst hn
  obtain ⟨q, hq⟩ := List.getElem?_of_mem ((zas_mem (G := G) _ 0 (4, zc G (zI v))).mpr ⟨4, zI v, (rfl : (x0 :: x1 :: x2 :: x3 :: some (zI v) :: r)[4]? = some (some (zI v))), by simp⟩)
  refine lv_iinc (k := q) (v := Int32.ofInt (v + i)) hx hb hd hl.has hq (za_add v i) hL rfl (fun ls' hl' => ?_)
  refine k p l e s m args below meth c H locs ls' F J P S (zls.put1 (v := zI (v + i)) hl' (fun j w hj => ?_))
  by_cases hjk : j = 4
  · subst hjk
    refine Or.inl ⟨rfl, ?_⟩
    have h9 : (some (zI (v + i))) = some w := by simpa using hj
    exact (Option.some.inj h9).symm
  · refine Or.inr ⟨hjk, ?_, (fun e => hc w (by have e2 : j = 3 := (by omega); subst e2; simpa using hj))⟩
    rw [← hj]
    exact z_lset 4 rfl j hjk

theorem z_iload_5 {x0 x1 x2 x3 x4 : Option zV} {r : List (Option zV)} {v : Int} (hd : decode M.2.1 pc = .ok (.iload 5, 2)) (hn : pc + 2 = n) (k : zW G M B Q n (x0 :: x1 :: x2 :: x3 :: x4 :: some (zI v) :: r) (zI v :: stk) st) : zW G M B Q pc (x0 :: x1 :: x2 :: x3 :: x4 :: some (zI v) :: r) stk st := by
  intro p l e s m args below meth c H locs ls F J P S hl
  have hx := F.1
  have hb := F.2.1
  subst hn
  have k := k p l e s m args below meth c H locs ls F J P S hl
  refine lv_iload hx hb hd (hl.2.2 5 (zI v) rfl) ?_
  exact k

theorem z_istore_5 {x0 x1 x2 x3 x4 : Option zV} {y : Option zV} {r : List (Option zV)} {v : Int} (hd : decode M.2.1 pc = .ok (.istore 5, 2)) (hn : pc + 2 = n) (hL : 5 < M.2.2.1) (hc : ∀ w, x4 = some w → zcat w = 1) (k : zW G M B Q n (x0 :: x1 :: x2 :: x3 :: x4 :: some (zI v) :: r) stk st) : zW G M B Q pc (x0 :: x1 :: x2 :: x3 :: x4 :: y :: r) (zI v :: stk) st := by
  intro p l e s m args below meth c H locs ls F J P S hl
  have hx := F.1
  have hb := F.2.1
  subst hn
  refine lv_istore hx hb hd hl.has hL rfl (fun ls' hl' => ?_)
  refine k p l e s m args below meth c H locs ls' F J P S (zls.put1 (v := zI v) hl' (fun j w hj => ?_))
  by_cases hjk : j = 5
  · subst hjk
    refine Or.inl ⟨rfl, ?_⟩
    have h9 : (some (zI v)) = some w := by simpa using hj
    exact (Option.some.inj h9).symm
  · refine Or.inr ⟨hjk, ?_, (fun e => hc w (by have e2 : j = 4 := (by omega); subst e2; simpa using hj))⟩
    rw [← hj]
    exact z_lset 5 rfl j hjk

theorem z_aload_5 {x0 x1 x2 x3 x4 : Option zV} {r : List (Option zV)} {v : Nat} (hd : decode M.2.1 pc = .ok (.aload 5, 2)) (hn : pc + 2 = n) (k : zW G M B Q n (x0 :: x1 :: x2 :: x3 :: x4 :: some (zR v) :: r) (zR v :: stk) st) : zW G M B Q pc (x0 :: x1 :: x2 :: x3 :: x4 :: some (zR v) :: r) stk st := by
  intro p l e s m args below meth c H locs ls F J P S hl
  have hx := F.1
  have hb := F.2.1
  subst hn
  have k := k p l e s m args below meth c H locs ls F J P S hl
  refine lv_aload hx hb hd (hl.2.2 5 (zR v) rfl) ?_
  exact k

theorem z_astore_5 {x0 x1 x2 x3 x4 : Option zV} {y : Option zV} {r : List (Option zV)} {v : Nat} (hd : decode M.2.1 pc = .ok (.astore 5, 2)) (hn : pc + 2 = n) (hL : 5 < M.2.2.1) (hc : ∀ w, x4 = some w → zcat w = 1) (k : zW G M B Q n (x0 :: x1 :: x2 :: x3 :: x4 :: some (zR v) :: r) stk st) : zW G M B Q pc (x0 :: x1 :: x2 :: x3 :: x4 :: y :: r) (zR v :: stk) st := by
  intro p l e s m args below meth c H locs ls F J P S hl
  have hx := F.1
  have hb := F.2.1
  subst hn
  refine lv_astore hx hb hd hl.has hL rfl (fun ls' hl' => ?_)
  refine k p l e s m args below meth c H locs ls' F J P S (zls.put1 (v := zR v) hl' (fun j w hj => ?_))
  by_cases hjk : j = 5
  · subst hjk
    refine Or.inl ⟨rfl, ?_⟩
    have h9 : (some (zR v)) = some w := by simpa using hj
    exact (Option.some.inj h9).symm
  · refine Or.inr ⟨hjk, ?_, (fun e => hc w (by have e2 : j = 4 := (by omega); subst e2; simpa using hj))⟩
    rw [← hj]
    exact z_lset 5 rfl j hjk

theorem z_lload_5 {x0 x1 x2 x3 x4 : Option zV} {r : List (Option zV)} {v : Int} (hd : decode M.2.1 pc = .ok (.lload 5, 2)) (hn : pc + 2 = n) (k : zW G M B Q n (x0 :: x1 :: x2 :: x3 :: x4 :: some (zL v) :: r) (zL v :: stk) st) : zW G M B Q pc (x0 :: x1 :: x2 :: x3 :: x4 :: some (zL v) :: r) stk st := by
  intro p l e s m args below meth c H locs ls F J P S hl
  have hx := F.1
  have hb := F.2.1
  subst hn
  have k := k p l e s m args below meth c H locs ls F J P S hl
  refine lv_lload hx hb hd (hl.2.2 5 (zL v) rfl) ?_
  exact k

theorem z_lstore_5 {x0 x1 x2 x3 x4 : Option zV} {y y2 : Option zV} {r : List (Option zV)} {v : Int} (hd : decode M.2.1 pc = .ok (.lstore 5, 2)) (hn : pc + 2 = n) (hL : 5 + 1 < M.2.2.1) (hc : ∀ w, x4 = some w → zcat w = 1) (k : zW G M B Q n (x0 :: x1 :: x2 :: x3 :: x4 :: some (zL v) :: none :: r) stk st) : zW G M B Q pc (x0 :: x1 :: x2 :: x3 :: x4 :: y :: y2 :: r) (zL v :: stk) st := by
  intro p l e s m args below meth c H locs ls F J P S hl
  have hx := F.1
  have hb := F.2.1
  subst hn
  refine lv_lstore hx hb hd hl.has hL rfl (fun ls' hl' => ?_)
  refine k p l e s m args below meth c H locs ls' F J P S (zls.put2 (v := zL v) hl' (fun j w hj => ?_))
  by_cases hjk : j = 5
  · subst hjk
    refine Or.inl ⟨rfl, ?_⟩
    have h9 : (some (zL v)) = some w := by simpa using hj
    exact (Option.some.inj h9).symm
  · by_cases hj2 : j = 5 + 1
    · subst hj2
      have h9 : (none : Option zV) = some w := by simpa using hj
      cases h9
    · refine Or.inr ⟨hjk, hj2, ?_, (fun e => hc w (by have e2 : j = 4 := (by omega); subst e2; simpa using hj))⟩
      rw [← hj]
      exact z_lset2 5 rfl j hjk hj2

theorem z_iinc_5 {x0 x1 x2 x3 x4 : Option zV} {r : List (Option zV)} {v i : Int} (hd : decode M.2.1 pc = .ok (.iinc 5 i, 3)) (hn : pc + 3 = n) (hL : 5 < M.2.2.1) (hc : ∀ w, x4 = some w → zcat w = 1) (k : zW G M B Q n (x0 :: x1 :: x2 :: x3 :: x4 :: some (zI (v + i)) :: r) stk st) : zW G M B Q pc (x0 :: x1 :: x2 :: x3 :: x4 :: some (zI v) :: r) stk st := by
  intro p l e s m args below meth c H locs ls F J P S hl
  have hx := F.1
  have hb := F.2.1
  subst hn
  obtain ⟨q, hq⟩ := List.getElem?_of_mem ((zas_mem (G := G) _ 0 (5, zc G (zI v))).mpr ⟨5, zI v, (rfl : (x0 :: x1 :: x2 :: x3 :: x4 :: some (zI v) :: r)[5]? = some (some (zI v))), by simp⟩)
  refine lv_iinc (k := q) (v := Int32.ofInt (v + i)) hx hb hd hl.has hq (za_add v i) hL rfl (fun ls' hl' => ?_)
  refine k p l e s m args below meth c H locs ls' F J P S (zls.put1 (v := zI (v + i)) hl' (fun j w hj => ?_))
  by_cases hjk : j = 5
  · subst hjk
    refine Or.inl ⟨rfl, ?_⟩
    have h9 : (some (zI (v + i))) = some w := by simpa using hj
    exact (Option.some.inj h9).symm
  · refine Or.inr ⟨hjk, ?_, (fun e => hc w (by have e2 : j = 4 := (by omega); subst e2; simpa using hj))⟩
    rw [← hj]
    exact z_lset 5 rfl j hjk

theorem z_iload_6 {x0 x1 x2 x3 x4 x5 : Option zV} {r : List (Option zV)} {v : Int} (hd : decode M.2.1 pc = .ok (.iload 6, 2)) (hn : pc + 2 = n) (k : zW G M B Q n (x0 :: x1 :: x2 :: x3 :: x4 :: x5 :: some (zI v) :: r) (zI v :: stk) st) : zW G M B Q pc (x0 :: x1 :: x2 :: x3 :: x4 :: x5 :: some (zI v) :: r) stk st := by
  intro p l e s m args below meth c H locs ls F J P S hl
  have hx := F.1
  have hb := F.2.1
  subst hn
  have k := k p l e s m args below meth c H locs ls F J P S hl
  refine lv_iload hx hb hd (hl.2.2 6 (zI v) rfl) ?_
  exact k

theorem z_istore_6 {x0 x1 x2 x3 x4 x5 : Option zV} {y : Option zV} {r : List (Option zV)} {v : Int} (hd : decode M.2.1 pc = .ok (.istore 6, 2)) (hn : pc + 2 = n) (hL : 6 < M.2.2.1) (hc : ∀ w, x5 = some w → zcat w = 1) (k : zW G M B Q n (x0 :: x1 :: x2 :: x3 :: x4 :: x5 :: some (zI v) :: r) stk st) : zW G M B Q pc (x0 :: x1 :: x2 :: x3 :: x4 :: x5 :: y :: r) (zI v :: stk) st := by
  intro p l e s m args below meth c H locs ls F J P S hl
  have hx := F.1
  have hb := F.2.1
  subst hn
  refine lv_istore hx hb hd hl.has hL rfl (fun ls' hl' => ?_)
  refine k p l e s m args below meth c H locs ls' F J P S (zls.put1 (v := zI v) hl' (fun j w hj => ?_))
  by_cases hjk : j = 6
  · subst hjk
    refine Or.inl ⟨rfl, ?_⟩
    have h9 : (some (zI v)) = some w := by simpa using hj
    exact (Option.some.inj h9).symm
  · refine Or.inr ⟨hjk, ?_, (fun e => hc w (by have e2 : j = 5 := (by omega); subst e2; simpa using hj))⟩
    rw [← hj]
    exact z_lset 6 rfl j hjk

theorem z_aload_6 {x0 x1 x2 x3 x4 x5 : Option zV} {r : List (Option zV)} {v : Nat} (hd : decode M.2.1 pc = .ok (.aload 6, 2)) (hn : pc + 2 = n) (k : zW G M B Q n (x0 :: x1 :: x2 :: x3 :: x4 :: x5 :: some (zR v) :: r) (zR v :: stk) st) : zW G M B Q pc (x0 :: x1 :: x2 :: x3 :: x4 :: x5 :: some (zR v) :: r) stk st := by
  intro p l e s m args below meth c H locs ls F J P S hl
  have hx := F.1
  have hb := F.2.1
  subst hn
  have k := k p l e s m args below meth c H locs ls F J P S hl
  refine lv_aload hx hb hd (hl.2.2 6 (zR v) rfl) ?_
  exact k

theorem z_astore_6 {x0 x1 x2 x3 x4 x5 : Option zV} {y : Option zV} {r : List (Option zV)} {v : Nat} (hd : decode M.2.1 pc = .ok (.astore 6, 2)) (hn : pc + 2 = n) (hL : 6 < M.2.2.1) (hc : ∀ w, x5 = some w → zcat w = 1) (k : zW G M B Q n (x0 :: x1 :: x2 :: x3 :: x4 :: x5 :: some (zR v) :: r) stk st) : zW G M B Q pc (x0 :: x1 :: x2 :: x3 :: x4 :: x5 :: y :: r) (zR v :: stk) st := by
  intro p l e s m args below meth c H locs ls F J P S hl
  have hx := F.1
  have hb := F.2.1
  subst hn
  refine lv_astore hx hb hd hl.has hL rfl (fun ls' hl' => ?_)
  refine k p l e s m args below meth c H locs ls' F J P S (zls.put1 (v := zR v) hl' (fun j w hj => ?_))
  by_cases hjk : j = 6
  · subst hjk
    refine Or.inl ⟨rfl, ?_⟩
    have h9 : (some (zR v)) = some w := by simpa using hj
    exact (Option.some.inj h9).symm
  · refine Or.inr ⟨hjk, ?_, (fun e => hc w (by have e2 : j = 5 := (by omega); subst e2; simpa using hj))⟩
    rw [← hj]
    exact z_lset 6 rfl j hjk

theorem z_lload_6 {x0 x1 x2 x3 x4 x5 : Option zV} {r : List (Option zV)} {v : Int} (hd : decode M.2.1 pc = .ok (.lload 6, 2)) (hn : pc + 2 = n) (k : zW G M B Q n (x0 :: x1 :: x2 :: x3 :: x4 :: x5 :: some (zL v) :: r) (zL v :: stk) st) : zW G M B Q pc (x0 :: x1 :: x2 :: x3 :: x4 :: x5 :: some (zL v) :: r) stk st := by
  intro p l e s m args below meth c H locs ls F J P S hl
  have hx := F.1
  have hb := F.2.1
  subst hn
  have k := k p l e s m args below meth c H locs ls F J P S hl
  refine lv_lload hx hb hd (hl.2.2 6 (zL v) rfl) ?_
  exact k

theorem z_lstore_6 {x0 x1 x2 x3 x4 x5 : Option zV} {y y2 : Option zV} {r : List (Option zV)} {v : Int} (hd : decode M.2.1 pc = .ok (.lstore 6, 2)) (hn : pc + 2 = n) (hL : 6 + 1 < M.2.2.1) (hc : ∀ w, x5 = some w → zcat w = 1) (k : zW G M B Q n (x0 :: x1 :: x2 :: x3 :: x4 :: x5 :: some (zL v) :: none :: r) stk st) : zW G M B Q pc (x0 :: x1 :: x2 :: x3 :: x4 :: x5 :: y :: y2 :: r) (zL v :: stk) st := by
  intro p l e s m args below meth c H locs ls F J P S hl
  have hx := F.1
  have hb := F.2.1
  subst hn
  refine lv_lstore hx hb hd hl.has hL rfl (fun ls' hl' => ?_)
  refine k p l e s m args below meth c H locs ls' F J P S (zls.put2 (v := zL v) hl' (fun j w hj => ?_))
  by_cases hjk : j = 6
  · subst hjk
    refine Or.inl ⟨rfl, ?_⟩
    have h9 : (some (zL v)) = some w := by simpa using hj
    exact (Option.some.inj h9).symm
  · by_cases hj2 : j = 6 + 1
    · subst hj2
      have h9 : (none : Option zV) = some w := by simpa using hj
      cases h9
    · refine Or.inr ⟨hjk, hj2, ?_, (fun e => hc w (by have e2 : j = 5 := (by omega); subst e2; simpa using hj))⟩
      rw [← hj]
      exact z_lset2 6 rfl j hjk hj2

theorem z_iinc_6 {x0 x1 x2 x3 x4 x5 : Option zV} {r : List (Option zV)} {v i : Int} (hd : decode M.2.1 pc = .ok (.iinc 6 i, 3)) (hn : pc + 3 = n) (hL : 6 < M.2.2.1) (hc : ∀ w, x5 = some w → zcat w = 1) (k : zW G M B Q n (x0 :: x1 :: x2 :: x3 :: x4 :: x5 :: some (zI (v + i)) :: r) stk st) : zW G M B Q pc (x0 :: x1 :: x2 :: x3 :: x4 :: x5 :: some (zI v) :: r) stk st := by
  intro p l e s m args below meth c H locs ls F J P S hl
  have hx := F.1
  have hb := F.2.1
  subst hn
  obtain ⟨q, hq⟩ := List.getElem?_of_mem ((zas_mem (G := G) _ 0 (6, zc G (zI v))).mpr ⟨6, zI v, (rfl : (x0 :: x1 :: x2 :: x3 :: x4 :: x5 :: some (zI v) :: r)[6]? = some (some (zI v))), by simp⟩)
  refine lv_iinc (k := q) (v := Int32.ofInt (v + i)) hx hb hd hl.has hq (za_add v i) hL rfl (fun ls' hl' => ?_)
  refine k p l e s m args below meth c H locs ls' F J P S (zls.put1 (v := zI (v + i)) hl' (fun j w hj => ?_))
  by_cases hjk : j = 6
  · subst hjk
    refine Or.inl ⟨rfl, ?_⟩
    have h9 : (some (zI (v + i))) = some w := by simpa using hj
    exact (Option.some.inj h9).symm
  · refine Or.inr ⟨hjk, ?_, (fun e => hc w (by have e2 : j = 5 := (by omega); subst e2; simpa using hj))⟩
    rw [← hj]
    exact z_lset 6 rfl j hjk

theorem z_iload_7 {x0 x1 x2 x3 x4 x5 x6 : Option zV} {r : List (Option zV)} {v : Int} (hd : decode M.2.1 pc = .ok (.iload 7, 2)) (hn : pc + 2 = n) (k : zW G M B Q n (x0 :: x1 :: x2 :: x3 :: x4 :: x5 :: x6 :: some (zI v) :: r) (zI v :: stk) st) : zW G M B Q pc (x0 :: x1 :: x2 :: x3 :: x4 :: x5 :: x6 :: some (zI v) :: r) stk st := by
  intro p l e s m args below meth c H locs ls F J P S hl
  have hx := F.1
  have hb := F.2.1
  subst hn
  have k := k p l e s m args below meth c H locs ls F J P S hl
  refine lv_iload hx hb hd (hl.2.2 7 (zI v) rfl) ?_
  exact k

theorem z_istore_7 {x0 x1 x2 x3 x4 x5 x6 : Option zV} {y : Option zV} {r : List (Option zV)} {v : Int} (hd : decode M.2.1 pc = .ok (.istore 7, 2)) (hn : pc + 2 = n) (hL : 7 < M.2.2.1) (hc : ∀ w, x6 = some w → zcat w = 1) (k : zW G M B Q n (x0 :: x1 :: x2 :: x3 :: x4 :: x5 :: x6 :: some (zI v) :: r) stk st) : zW G M B Q pc (x0 :: x1 :: x2 :: x3 :: x4 :: x5 :: x6 :: y :: r) (zI v :: stk) st := by
  intro p l e s m args below meth c H locs ls F J P S hl
  have hx := F.1
  have hb := F.2.1
  subst hn
  refine lv_istore hx hb hd hl.has hL rfl (fun ls' hl' => ?_)
  refine k p l e s m args below meth c H locs ls' F J P S (zls.put1 (v := zI v) hl' (fun j w hj => ?_))
  by_cases hjk : j = 7
  · subst hjk
    refine Or.inl ⟨rfl, ?_⟩
    have h9 : (some (zI v)) = some w := by simpa using hj
    exact (Option.some.inj h9).symm
  · refine Or.inr ⟨hjk, ?_, (fun e => hc w (by have e2 : j = 6 := (by omega); subst e2; simpa using hj))⟩
    rw [← hj]
    exact z_lset 7 rfl j hjk

theorem z_aload_7 {x0 x1 x2 x3 x4 x5 x6 : Option zV} {r : List (Option zV)} {v : Nat} (hd : decode M.2.1 pc = .ok (.aload 7, 2)) (hn : pc + 2 = n) (k : zW G M B Q n (x0 :: x1 :: x2 :: x3 :: x4 :: x5 :: x6 :: some (zR v) :: r) (zR v :: stk) st) : zW G M B Q pc (x0 :: x1 :: x2 :: x3 :: x4 :: x5 :: x6 :: some (zR v) :: r) stk st := by
  intro p l e s m args below meth c H locs ls F J P S hl
  have hx := F.1
  have hb := F.2.1
  subst hn
  have k := k p l e s m args below meth c H locs ls F J P S hl
  refine lv_aload hx hb hd (hl.2.2 7 (zR v) rfl) ?_
  exact k

theorem z_astore_7 {x0 x1 x2 x3 x4 x5 x6 : Option zV} {y : Option zV} {r : List (Option zV)} {v : Nat} (hd : decode M.2.1 pc = .ok (.astore 7, 2)) (hn : pc + 2 = n) (hL : 7 < M.2.2.1) (hc : ∀ w, x6 = some w → zcat w = 1) (k : zW G M B Q n (x0 :: x1 :: x2 :: x3 :: x4 :: x5 :: x6 :: some (zR v) :: r) stk st) : zW G M B Q pc (x0 :: x1 :: x2 :: x3 :: x4 :: x5 :: x6 :: y :: r) (zR v :: stk) st := by
  intro p l e s m args below meth c H locs ls F J P S hl
  have hx := F.1
  have hb := F.2.1
  subst hn
  refine lv_astore hx hb hd hl.has hL rfl (fun ls' hl' => ?_)
  refine k p l e s m args below meth c H locs ls' F J P S (zls.put1 (v := zR v) hl' (fun j w hj => ?_))
  by_cases hjk : j = 7
  · subst hjk
    refine Or.inl ⟨rfl, ?_⟩
    have h9 : (some (zR v)) = some w := by simpa using hj
    exact (Option.some.inj h9).symm
  · refine Or.inr ⟨hjk, ?_, (fun e => hc w (by have e2 : j = 6 := (by omega); subst e2; simpa using hj))⟩
    rw [← hj]
    exact z_lset 7 rfl j hjk

theorem z_lload_7 {x0 x1 x2 x3 x4 x5 x6 : Option zV} {r : List (Option zV)} {v : Int} (hd : decode M.2.1 pc = .ok (.lload 7, 2)) (hn : pc + 2 = n) (k : zW G M B Q n (x0 :: x1 :: x2 :: x3 :: x4 :: x5 :: x6 :: some (zL v) :: r) (zL v :: stk) st) : zW G M B Q pc (x0 :: x1 :: x2 :: x3 :: x4 :: x5 :: x6 :: some (zL v) :: r) stk st := by
  intro p l e s m args below meth c H locs ls F J P S hl
  have hx := F.1
  have hb := F.2.1
  subst hn
  have k := k p l e s m args below meth c H locs ls F J P S hl
  refine lv_lload hx hb hd (hl.2.2 7 (zL v) rfl) ?_
  exact k

theorem z_lstore_7 {x0 x1 x2 x3 x4 x5 x6 : Option zV} {y y2 : Option zV} {r : List (Option zV)} {v : Int} (hd : decode M.2.1 pc = .ok (.lstore 7, 2)) (hn : pc + 2 = n) (hL : 7 + 1 < M.2.2.1) (hc : ∀ w, x6 = some w → zcat w = 1) (k : zW G M B Q n (x0 :: x1 :: x2 :: x3 :: x4 :: x5 :: x6 :: some (zL v) :: none :: r) stk st) : zW G M B Q pc (x0 :: x1 :: x2 :: x3 :: x4 :: x5 :: x6 :: y :: y2 :: r) (zL v :: stk) st := by
  intro p l e s m args below meth c H locs ls F J P S hl
  have hx := F.1
  have hb := F.2.1
  subst hn
  refine lv_lstore hx hb hd hl.has hL rfl (fun ls' hl' => ?_)
  refine k p l e s m args below meth c H locs ls' F J P S (zls.put2 (v := zL v) hl' (fun j w hj => ?_))
  by_cases hjk : j = 7
  · subst hjk
    refine Or.inl ⟨rfl, ?_⟩
    have h9 : (some (zL v)) = some w := by simpa using hj
    exact (Option.some.inj h9).symm
  · by_cases hj2 : j = 7 + 1
    · subst hj2
      have h9 : (none : Option zV) = some w := by simpa using hj
      cases h9
    · refine Or.inr ⟨hjk, hj2, ?_, (fun e => hc w (by have e2 : j = 6 := (by omega); subst e2; simpa using hj))⟩
      rw [← hj]
      exact z_lset2 7 rfl j hjk hj2

theorem z_iinc_7 {x0 x1 x2 x3 x4 x5 x6 : Option zV} {r : List (Option zV)} {v i : Int} (hd : decode M.2.1 pc = .ok (.iinc 7 i, 3)) (hn : pc + 3 = n) (hL : 7 < M.2.2.1) (hc : ∀ w, x6 = some w → zcat w = 1) (k : zW G M B Q n (x0 :: x1 :: x2 :: x3 :: x4 :: x5 :: x6 :: some (zI (v + i)) :: r) stk st) : zW G M B Q pc (x0 :: x1 :: x2 :: x3 :: x4 :: x5 :: x6 :: some (zI v) :: r) stk st := by
  intro p l e s m args below meth c H locs ls F J P S hl
  have hx := F.1
  have hb := F.2.1
  subst hn
  obtain ⟨q, hq⟩ := List.getElem?_of_mem ((zas_mem (G := G) _ 0 (7, zc G (zI v))).mpr ⟨7, zI v, (rfl : (x0 :: x1 :: x2 :: x3 :: x4 :: x5 :: x6 :: some (zI v) :: r)[7]? = some (some (zI v))), by simp⟩)
  refine lv_iinc (k := q) (v := Int32.ofInt (v + i)) hx hb hd hl.has hq (za_add v i) hL rfl (fun ls' hl' => ?_)
  refine k p l e s m args below meth c H locs ls' F J P S (zls.put1 (v := zI (v + i)) hl' (fun j w hj => ?_))
  by_cases hjk : j = 7
  · subst hjk
    refine Or.inl ⟨rfl, ?_⟩
    have h9 : (some (zI (v + i))) = some w := by simpa using hj
    exact (Option.some.inj h9).symm
  · refine Or.inr ⟨hjk, ?_, (fun e => hc w (by have e2 : j = 6 := (by omega); subst e2; simpa using hj))⟩
    rw [← hj]
    exact z_lset 7 rfl j hjk

theorem z_iload_8 {x0 x1 x2 x3 x4 x5 x6 x7 : Option zV} {r : List (Option zV)} {v : Int} (hd : decode M.2.1 pc = .ok (.iload 8, 2)) (hn : pc + 2 = n) (k : zW G M B Q n (x0 :: x1 :: x2 :: x3 :: x4 :: x5 :: x6 :: x7 :: some (zI v) :: r) (zI v :: stk) st) : zW G M B Q pc (x0 :: x1 :: x2 :: x3 :: x4 :: x5 :: x6 :: x7 :: some (zI v) :: r) stk st := by
  intro p l e s m args below meth c H locs ls F J P S hl
  have hx := F.1
  have hb := F.2.1
  subst hn
  have k := k p l e s m args below meth c H locs ls F J P S hl
  refine lv_iload hx hb hd (hl.2.2 8 (zI v) rfl) ?_
  exact k

theorem z_istore_8 {x0 x1 x2 x3 x4 x5 x6 x7 : Option zV} {y : Option zV} {r : List (Option zV)} {v : Int} (hd : decode M.2.1 pc = .ok (.istore 8, 2)) (hn : pc + 2 = n) (hL : 8 < M.2.2.1) (hc : ∀ w, x7 = some w → zcat w = 1) (k : zW G M B Q n (x0 :: x1 :: x2 :: x3 :: x4 :: x5 :: x6 :: x7 :: some (zI v) :: r) stk st) : zW G M B Q pc (x0 :: x1 :: x2 :: x3 :: x4 :: x5 :: x6 :: x7 :: y :: r) (zI v :: stk) st := by
  intro p l e s m args below meth c H locs ls F J P S hl
  have hx := F.1
  have hb := F.2.1
  subst hn
  refine lv_istore hx hb hd hl.has hL rfl (fun ls' hl' => ?_)
  refine k p l e s m args below meth c H locs ls' F J P S (zls.put1 (v := zI v) hl' (fun j w hj => ?_))
  by_cases hjk : j = 8
  · subst hjk
    refine Or.inl ⟨rfl, ?_⟩
    have h9 : (some (zI v)) = some w := by simpa using hj
    exact (Option.some.inj h9).symm
  · refine Or.inr ⟨hjk, ?_, (fun e => hc w (by have e2 : j = 7 := (by omega); subst e2; simpa using hj))⟩
    rw [← hj]
    exact z_lset 8 rfl j hjk

theorem z_aload_8 {x0 x1 x2 x3 x4 x5 x6 x7 : Option zV} {r : List (Option zV)} {v : Nat} (hd : decode M.2.1 pc = .ok (.aload 8, 2)) (hn : pc + 2 = n) (k : zW G M B Q n (x0 :: x1 :: x2 :: x3 :: x4 :: x5 :: x6 :: x7 :: some (zR v) :: r) (zR v :: stk) st) : zW G M B Q pc (x0 :: x1 :: x2 :: x3 :: x4 :: x5 :: x6 :: x7 :: some (zR v) :: r) stk st := by
  intro p l e s m args below meth c H locs ls F J P S hl
  have hx := F.1
  have hb := F.2.1
  subst hn
  have k := k p l e s m args below meth c H locs ls F J P S hl
  refine lv_aload hx hb hd (hl.2.2 8 (zR v) rfl) ?_
  exact k

theorem z_astore_8 {x0 x1 x2 x3 x4 x5 x6 x7 : Option zV} {y : Option zV} {r : List (Option zV)} {v : Nat} (hd : decode M.2.1 pc = .ok (.astore 8, 2)) (hn : pc + 2 = n) (hL : 8 < M.2.2.1) (hc : ∀ w, x7 = some w → zcat w = 1) (k : zW G M B Q n (x0 :: x1 :: x2 :: x3 :: x4 :: x5 :: x6 :: x7 :: some (zR v) :: r) stk st) : zW G M B Q pc (x0 :: x1 :: x2 :: x3 :: x4 :: x5 :: x6 :: x7 :: y :: r) (zR v :: stk) st := by
  intro p l e s m args below meth c H locs ls F J P S hl
  have hx := F.1
  have hb := F.2.1
  subst hn
  refine lv_astore hx hb hd hl.has hL rfl (fun ls' hl' => ?_)
  refine k p l e s m args below meth c H locs ls' F J P S (zls.put1 (v := zR v) hl' (fun j w hj => ?_))
  by_cases hjk : j = 8
  · subst hjk
    refine Or.inl ⟨rfl, ?_⟩
    have h9 : (some (zR v)) = some w := by simpa using hj
    exact (Option.some.inj h9).symm
  · refine Or.inr ⟨hjk, ?_, (fun e => hc w (by have e2 : j = 7 := (by omega); subst e2; simpa using hj))⟩
    rw [← hj]
    exact z_lset 8 rfl j hjk

theorem z_lload_8 {x0 x1 x2 x3 x4 x5 x6 x7 : Option zV} {r : List (Option zV)} {v : Int} (hd : decode M.2.1 pc = .ok (.lload 8, 2)) (hn : pc + 2 = n) (k : zW G M B Q n (x0 :: x1 :: x2 :: x3 :: x4 :: x5 :: x6 :: x7 :: some (zL v) :: r) (zL v :: stk) st) : zW G M B Q pc (x0 :: x1 :: x2 :: x3 :: x4 :: x5 :: x6 :: x7 :: some (zL v) :: r) stk st := by
  intro p l e s m args below meth c H locs ls F J P S hl
  have hx := F.1
  have hb := F.2.1
  subst hn
  have k := k p l e s m args below meth c H locs ls F J P S hl
  refine lv_lload hx hb hd (hl.2.2 8 (zL v) rfl) ?_
  exact k

theorem z_lstore_8 {x0 x1 x2 x3 x4 x5 x6 x7 : Option zV} {y y2 : Option zV} {r : List (Option zV)} {v : Int} (hd : decode M.2.1 pc = .ok (.lstore 8, 2)) (hn : pc + 2 = n) (hL : 8 + 1 < M.2.2.1) (hc : ∀ w, x7 = some w → zcat w = 1) (k : zW G M B Q n (x0 :: x1 :: x2 :: x3 :: x4 :: x5 :: x6 :: x7 :: some (zL v) :: none :: r) stk st) : zW G M B Q pc (x0 :: x1 :: x2 :: x3 :: x4 :: x5 :: x6 :: x7 :: y :: y2 :: r) (zL v :: stk) st := by
  intro p l e s m args below meth c H locs ls F J P S hl
  have hx := F.1
  have hb := F.2.1
  subst hn
  refine lv_lstore hx hb hd hl.has hL rfl (fun ls' hl' => ?_)
  refine k p l e s m args below meth c H locs ls' F J P S (zls.put2 (v := zL v) hl' (fun j w hj => ?_))
  by_cases hjk : j = 8
  · subst hjk
    refine Or.inl ⟨rfl, ?_⟩
    have h9 : (some (zL v)) = some w := by simpa using hj
    exact (Option.some.inj h9).symm
  · by_cases hj2 : j = 8 + 1
    · subst hj2
      have h9 : (none : Option zV) = some w := by simpa using hj
      cases h9
    · refine Or.inr ⟨hjk, hj2, ?_, (fun e => hc w (by have e2 : j = 7 := (by omega); subst e2; simpa using hj))⟩
      rw [← hj]
      exact z_lset2 8 rfl j hjk hj2

theorem z_iinc_8 {x0 x1 x2 x3 x4 x5 x6 x7 : Option zV} {r : List (Option zV)} {v i : Int} (hd : decode M.2.1 pc = .ok (.iinc 8 i, 3)) (hn : pc + 3 = n) (hL : 8 < M.2.2.1) (hc : ∀ w, x7 = some w → zcat w = 1) (k : zW G M B Q n (x0 :: x1 :: x2 :: x3 :: x4 :: x5 :: x6 :: x7 :: some (zI (v + i)) :: r) stk st) : zW G M B Q pc (x0 :: x1 :: x2 :: x3 :: x4 :: x5 :: x6 :: x7 :: some (zI v) :: r) stk st := by
  intro p l e s m args below meth c H locs ls F J P S hl
  have hx := F.1
  have hb := F.2.1
  subst hn
  obtain ⟨q, hq⟩ := List.getElem?_of_mem ((zas_mem (G := G) _ 0 (8, zc G (zI v))).mpr ⟨8, zI v, (rfl : (x0 :: x1 :: x2 :: x3 :: x4 :: x5 :: x6 :: x7 :: some (zI v) :: r)[8]? = some (some (zI v))), by simp⟩)
  refine lv_iinc (k := q) (v := Int32.ofInt (v + i)) hx hb hd hl.has hq (za_add v i) hL rfl (fun ls' hl' => ?_)
  refine k p l e s m args below meth c H locs ls' F J P S (zls.put1 (v := zI (v + i)) hl' (fun j w hj => ?_))
  by_cases hjk : j = 8
  · subst hjk
    refine Or.inl ⟨rfl, ?_⟩
    have h9 : (some (zI (v + i))) = some w := by simpa using hj
    exact (Option.some.inj h9).symm
  · refine Or.inr ⟨hjk, ?_, (fun e => hc w (by have e2 : j = 7 := (by omega); subst e2; simpa using hj))⟩
    rw [← hj]
    exact z_lset 8 rfl j hjk

theorem z_iload_9 {x0 x1 x2 x3 x4 x5 x6 x7 x8 : Option zV} {r : List (Option zV)} {v : Int} (hd : decode M.2.1 pc = .ok (.iload 9, 2)) (hn : pc + 2 = n) (k : zW G M B Q n (x0 :: x1 :: x2 :: x3 :: x4 :: x5 :: x6 :: x7 :: x8 :: some (zI v) :: r) (zI v :: stk) st) : zW G M B Q pc (x0 :: x1 :: x2 :: x3 :: x4 :: x5 :: x6 :: x7 :: x8 :: some (zI v) :: r) stk st := by
  intro p l e s m args below meth c H locs ls F J P S hl
  have hx := F.1
  have hb := F.2.1
  subst hn
  have k := k p l e s m args below meth c H locs ls F J P S hl
  refine lv_iload hx hb hd (hl.2.2 9 (zI v) rfl) ?_
  exact k

theorem z_istore_9 {x0 x1 x2 x3 x4 x5 x6 x7 x8 : Option zV} {y : Option zV} {r : List (Option zV)} {v : Int} (hd : decode M.2.1 pc = .ok (.istore 9, 2)) (hn : pc + 2 = n) (hL : 9 < M.2.2.1) (hc : ∀ w, x8 = some w → zcat w = 1) (k : zW G M B Q n (x0 :: x1 :: x2 :: x3 :: x4 :: x5 :: x6 :: x7 :: x8 :: some (zI v) :: r) stk st) : zW G M B Q pc (x0 :: x1 :: x2 :: x3 :: x4 :: x5 :: x6 :: x7 :: x8 :: y :: r) (zI v :: stk) st := by
  intro p l e s m args below meth c H locs ls F J P S hl
  have hx := F.1
  have hb := F.2.1
  subst hn
  refine lv_istore hx hb hd hl.has hL rfl (fun ls' hl' => ?_)
  refine k p l e s m args below meth c H locs ls' F J P S (zls.put1 (v := zI v) hl' (fun j w hj => ?_))
  by_cases hjk : j = 9
  · subst hjk
    refine Or.inl ⟨rfl, ?_⟩
    have h9 : (some (zI v)) = some w := by simpa using hj
    exact (Option.some.inj h9).symm
  · refine Or.inr ⟨hjk, ?_, (fun e => hc w (by have e2 : j = 8 := (by omega); subst e2; simpa using hj))⟩
    rw [← hj]
    exact z_lset 9 rfl j hjk

theorem z_aload_9 {x0 x1 x2 x3 x4 x5 x6 x7 x8 : Option zV} {r : List (Option zV)} {v : Nat} (hd : decode M.2.1 pc = .ok (.aload 9, 2)) (hn : pc + 2 = n) (k : zW G M B Q n (x0 :: x1 :: x2 :: x3 :: x4 :: x5 :: x6 :: x7 :: x8 :: some (zR v) :: r) (zR v :: stk) st) : zW G M B Q pc (x0 :: x1 :: x2 :: x3 :: x4 :: x5 :: x6 :: x7 :: x8 :: some (zR v) :: r) stk st := by
  intro p l e s m args below meth c H locs ls F J P S hl
  have hx := F.1
  have hb := F.2.1
  subst hn
  have k := k p l e s m args below meth c H locs ls F J P S hl
  refine lv_aload hx hb hd (hl.2.2 9 (zR v) rfl) ?_
  exact k

theorem z_astore_9 {x0 x1 x2 x3 x4 x5 x6 x7 x8 : Option zV} {y : Option zV} {r : List (Option zV)} {v : Nat} (hd : decode M.2.1 pc = .ok (.astore 9, 2)) (hn : pc + 2 = n) (hL : 9 < M.2.2.1) (hc : ∀ w, x8 = some w → zcat w = 1) (k : zW G M B Q n (x0 :: x1 :: x2 :: x3 :: x4 :: x5 :: x6 :: x7 :: x8 :: some (zR v) :: r) stk st) : zW G M B Q pc (x0 :: x1 :: x2 :: x3 :: x4 :: x5 :: x6 :: x7 :: x8 :: y :: r) (zR v :: stk) st := by
  intro p l e s m args below meth c H locs ls F J P S hl
  have hx := F.1
  have hb := F.2.1
  subst hn
  refine lv_astore hx hb hd hl.has hL rfl (fun ls' hl' => ?_)
  refine k p l e s m args below meth c H locs ls' F J P S (zls.put1 (v := zR v) hl' (fun j w hj => ?_))
  by_cases hjk : j = 9
  · subst hjk
    refine Or.inl ⟨rfl, ?_⟩
    have h9 : (some (zR v)) = some w := by simpa using hj
    exact (Option.some.inj h9).symm
  · refine Or.inr ⟨hjk, ?_, (fun e => hc w (by have e2 : j = 8 := (by omega); subst e2; simpa using hj))⟩
    rw [← hj]
    exact z_lset 9 rfl j hjk

theorem z_lload_9 {x0 x1 x2 x3 x4 x5 x6 x7 x8 : Option zV} {r : List (Option zV)} {v : Int} (hd : decode M.2.1 pc = .ok (.lload 9, 2)) (hn : pc + 2 = n) (k : zW G M B Q n (x0 :: x1 :: x2 :: x3 :: x4 :: x5 :: x6 :: x7 :: x8 :: some (zL v) :: r) (zL v :: stk) st) : zW G M B Q pc (x0 :: x1 :: x2 :: x3 :: x4 :: x5 :: x6 :: x7 :: x8 :: some (zL v) :: r) stk st := by
  intro p l e s m args below meth c H locs ls F J P S hl
  have hx := F.1
  have hb := F.2.1
  subst hn
  have k := k p l e s m args below meth c H locs ls F J P S hl
  refine lv_lload hx hb hd (hl.2.2 9 (zL v) rfl) ?_
  exact k

theorem z_lstore_9 {x0 x1 x2 x3 x4 x5 x6 x7 x8 : Option zV} {y y2 : Option zV} {r : List (Option zV)} {v : Int} (hd : decode M.2.1 pc = .ok (.lstore 9, 2)) (hn : pc + 2 = n) (hL : 9 + 1 < M.2.2.1) (hc : ∀ w, x8 = some w → zcat w = 1) (k : zW G M B Q n (x0 :: x1 :: x2 :: x3 :: x4 :: x5 :: x6 :: x7 :: x8 :: some (zL v) :: none :: r) stk st) : zW G M B Q pc (x0 :: x1 :: x2 :: x3 :: x4 :: x5 :: x6 :: x7 :: x8 :: y :: y2 :: r) (zL v :: stk) st := by
  intro p l e s m args below meth c H locs ls F J P S hl
  have hx := F.1
  have hb := F.2.1
  subst hn
  refine lv_lstore hx hb hd hl.has hL rfl (fun ls' hl' => ?_)
  refine k p l e s m args below meth c H locs ls' F J P S (zls.put2 (v := zL v) hl' (fun j w hj => ?_))
  by_cases hjk : j = 9
  · subst hjk
    refine Or.inl ⟨rfl, ?_⟩
    have h9 : (some (zL v)) = some w := by simpa using hj
    exact (Option.some.inj h9).symm
  · by_cases hj2 : j = 9 + 1
    · subst hj2
      have h9 : (none : Option zV) = some w := by simpa using hj
      cases h9
    · refine Or.inr ⟨hjk, hj2, ?_, (fun e => hc w (by have e2 : j = 8 := (by omega); subst e2; simpa using hj))⟩
      rw [← hj]
      exact z_lset2 9 rfl j hjk hj2

theorem z_iinc_9 {x0 x1 x2 x3 x4 x5 x6 x7 x8 : Option zV} {r : List (Option zV)} {v i : Int} (hd : decode M.2.1 pc = .ok (.iinc 9 i, 3)) (hn : pc + 3 = n) (hL : 9 < M.2.2.1) (hc : ∀ w, x8 = some w → zcat w = 1) (k : zW G M B Q n (x0 :: x1 :: x2 :: x3 :: x4 :: x5 :: x6 :: x7 :: x8 :: some (zI (v + i)) :: r) stk st) : zW G M B Q pc (x0 :: x1 :: x2 :: x3 :: x4 :: x5 :: x6 :: x7 :: x8 :: some (zI v) :: r) stk st := by
  intro p l e s m args below meth c H locs ls F J P S hl
  have hx := F.1
  have hb := F.2.1
  subst hn
  obtain ⟨q, hq⟩ := List.getElem?_of_mem ((zas_mem (G := G) _ 0 (9, zc G (zI v))).mpr ⟨9, zI v, (rfl : (x0 :: x1 :: x2 :: x3 :: x4 :: x5 :: x6 :: x7 :: x8 :: some (zI v) :: r)[9]? = some (some (zI v))), by simp⟩)
  refine lv_iinc (k := q) (v := Int32.ofInt (v + i)) hx hb hd hl.has hq (za_add v i) hL rfl (fun ls' hl' => ?_)
  refine k p l e s m args below meth c H locs ls' F J P S (zls.put1 (v := zI (v + i)) hl' (fun j w hj => ?_))
  by_cases hjk : j = 9
  · subst hjk
    refine Or.inl ⟨rfl, ?_⟩
    have h9 : (some (zI (v + i))) = some w := by simpa using hj
    exact (Option.some.inj h9).symm
  · refine Or.inr ⟨hjk, ?_, (fun e => hc w (by have e2 : j = 8 := (by omega); subst e2; simpa using hj))⟩
    rw [← hj]
    exact z_lset 9 rfl j hjk

theorem z_iload_10 {x0 x1 x2 x3 x4 x5 x6 x7 x8 x9 : Option zV} {r : List (Option zV)} {v : Int} (hd : decode M.2.1 pc = .ok (.iload 10, 2)) (hn : pc + 2 = n) (k : zW G M B Q n (x0 :: x1 :: x2 :: x3 :: x4 :: x5 :: x6 :: x7 :: x8 :: x9 :: some (zI v) :: r) (zI v :: stk) st) : zW G M B Q pc (x0 :: x1 :: x2 :: x3 :: x4 :: x5 :: x6 :: x7 :: x8 :: x9 :: some (zI v) :: r) stk st := by
  intro p l e s m args below meth c H locs ls F J P S hl
  have hx := F.1
  have hb := F.2.1
  subst hn
  have k := k p l e s m args below meth c H locs ls F J P S hl
  refine lv_iload hx hb hd (hl.2.2 10 (zI v) rfl) ?_
  exact k

theorem z_istore_10 {x0 x1 x2 x3 x4 x5 x6 x7 x8 x9 : Option zV} {y : Option zV} {r : List (Option zV)} {v : Int} (hd : decode M.2.1 pc = .ok (.istore 10, 2)) (hn : pc + 2 = n) (hL : 10 < M.2.2.1) (hc : ∀ w, x9 = some w → zcat w = 1) (k : zW G M B Q n (x0 :: x1 :: x2 :: x3 :: x4 :: x5 :: x6 :: x7 :: x8 :: x9 :: some (zI v) :: r) stk st) : zW G M B Q pc (x0 :: x1 :: x2 :: x3 :: x4 :: x5 :: x6 :: x7 :: x8 :: x9 :: y :: r) (zI v :: stk) st := by
  intro p l e s m args below meth c H locs ls F J P S hl
  have hx := F.1
  have hb := F.2.1
  subst hn
  refine lv_istore hx hb hd hl.has hL rfl (fun ls' hl' => ?_)
  refine k p l e s m args below meth c H locs ls' F J P S (zls.put1 (v := zI v) hl' (fun j w hj => ?_))
  by_cases hjk : j = 10
  · subst hjk
    refine Or.inl ⟨rfl, ?_⟩
    have h9 : (some (zI v)) = some w := by simpa using hj
    exact (Option.some.inj h9).symm
  · refine Or.inr ⟨hjk, ?_, (fun e => hc w (by have e2 : j = 9 := (by omega); subst e2; simpa using hj))⟩
    rw [← hj]
    exact z_lset 10 rfl j hjk

theorem z_aload_10 {x0 x1 x2 x3 x4 x5 x6 x7 x8 x9 : Option zV} {r : List (Option zV)} {v : Nat} (hd : decode M.2.1 pc = .ok (.aload 10, 2)) (hn : pc + 2 = n) (k : zW G M B Q n (x0 :: x1 :: x2 :: x3 :: x4 :: x5 :: x6 :: x7 :: x8 :: x9 :: some (zR v) :: r) (zR v :: stk) st) : zW G M B Q pc (x0 :: x1 :: x2 :: x3 :: x4 :: x5 :: x6 :: x7 :: x8 :: x9 :: some (zR v) :: r) stk st := by
  intro p l e s m args below meth c H locs ls F J P S hl
  have hx := F.1
  have hb := F.2.1
  subst hn
  have k := k p l e s m args below meth c H locs ls F J P S hl
  refine lv_aload hx hb hd (hl.2.2 10 (zR v) rfl) ?_
  exact k

theorem z_astore_10 {x0 x1 x2 x3 x4 x5 x6 x7 x8 x9 : Option zV} {y : Option zV} {r : List (Option zV)} {v : Nat} (hd : decode M.2.1 pc = .ok (.astore 10, 2)) (hn : pc + 2 = n) (hL : 10 < M.2.2.1) (hc : ∀ w, x9 = some w → zcat w = 1) (k : zW G M B Q n (x0 :: x1 :: x2 :: x3 :: x4 :: x5 :: x6 :: x7 :: x8 :: x9 :: some (zR v) :: r) stk st) : zW G M B Q pc (x0 :: x1 :: x2 :: x3 :: x4 :: x5 :: x6 :: x7 :: x8 :: x9 :: y :: r) (zR v :: stk) st := by
  intro p l e s m args below meth c H locs ls F J P S hl
  have hx := F.1
  have hb := F.2.1
  subst hn
  refine lv_astore hx hb hd hl.has hL rfl (fun ls' hl' => ?_)
  refine k p l e s m args below meth c H locs ls' F J P S (zls.put1 (v := zR v) hl' (fun j w hj => ?_))
  by_cases hjk : j = 10
  · subst hjk
    refine Or.inl ⟨rfl, ?_⟩
    have h9 : (some (zR v)) = some w := by simpa using hj
    exact (Option.some.inj h9).symm
  · refine Or.inr ⟨hjk, ?_, (fun e => hc w (by have e2 : j = 9 := (by omega); subst e2; simpa using hj))⟩
    rw [← hj]
    exact z_lset 10 rfl j hjk

theorem z_lload_10 {x0 x1 x2 x3 x4 x5 x6 x7 x8 x9 : Option zV} {r : List (Option zV)} {v : Int} (hd : decode M.2.1 pc = .ok (.lload 10, 2)) (hn : pc + 2 = n) (k : zW G M B Q n (x0 :: x1 :: x2 :: x3 :: x4 :: x5 :: x6 :: x7 :: x8 :: x9 :: some (zL v) :: r) (zL v :: stk) st) : zW G M B Q pc (x0 :: x1 :: x2 :: x3 :: x4 :: x5 :: x6 :: x7 :: x8 :: x9 :: some (zL v) :: r) stk st := by
  intro p l e s m args below meth c H locs ls F J P S hl
  have hx := F.1
  have hb := F.2.1
  subst hn
  have k := k p l e s m args below meth c H locs ls F J P S hl
  refine lv_lload hx hb hd (hl.2.2 10 (zL v) rfl) ?_
  exact k

theorem z_lstore_10 {x0 x1 x2 x3 x4 x5 x6 x7 x8 x9 : Option zV} {y y2 : Option zV} {r : List (Option zV)} {v : Int} (hd : decode M.2.1 pc = .ok (.lstore 10, 2)) (hn : pc + 2 = n) (hL : 10 + 1 < M.2.2.1) (hc : ∀ w, x9 = some w → zcat w = 1) (k : zW G M B Q n (x0 :: x1 :: x2 :: x3 :: x4 :: x5 :: x6 :: x7 :: x8 :: x9 :: some (zL v) :: none :: r) stk st) : zW G M B Q pc (x0 :: x1 :: x2 :: x3 :: x4 :: x5 :: x6 :: x7 :: x8 :: x9 :: y :: y2 :: r) (zL v :: stk) st := by
  intro p l e s m args below meth c H locs ls F J P S hl
  have hx := F.1
  have hb := F.2.1
  subst hn
  refine lv_lstore hx hb hd hl.has hL rfl (fun ls' hl' => ?_)
  refine k p l e s m args below meth c H locs ls' F J P S (zls.put2 (v := zL v) hl' (fun j w hj => ?_))
  by_cases hjk : j = 10
  · subst hjk
    refine Or.inl ⟨rfl, ?_⟩
    have h9 : (some (zL v)) = some w := by simpa using hj
    exact (Option.some.inj h9).symm
  · by_cases hj2 : j = 10 + 1
    · subst hj2
      have h9 : (none : Option zV) = some w := by simpa using hj
      cases h9
    · refine Or.inr ⟨hjk, hj2, ?_, (fun e => hc w (by have e2 : j = 9 := (by omega); subst e2; simpa using hj))⟩
      rw [← hj]
      exact z_lset2 10 rfl j hjk hj2

theorem z_iinc_10 {x0 x1 x2 x3 x4 x5 x6 x7 x8 x9 : Option zV} {r : List (Option zV)} {v i : Int} (hd : decode M.2.1 pc = .ok (.iinc 10 i, 3)) (hn : pc + 3 = n) (hL : 10 < M.2.2.1) (hc : ∀ w, x9 = some w → zcat w = 1) (k : zW G M B Q n (x0 :: x1 :: x2 :: x3 :: x4 :: x5 :: x6 :: x7 :: x8 :: x9 :: some (zI (v + i)) :: r) stk st) : zW G M B Q pc (x0 :: x1 :: x2 :: x3 :: x4 :: x5 :: x6 :: x7 :: x8 :: x9 :: some (zI v) :: r) stk st := by
  intro p l e s m args below meth c H locs ls F J P S hl
  have hx := F.1
  have hb := F.2.1
  subst hn
  obtain ⟨q, hq⟩ := List.getElem?_of_mem ((zas_mem (G := G) _ 0 (10, zc G (zI v))).mpr ⟨10, zI v, (rfl : (x0 :: x1 :: x2 :: x3 :: x4 :: x5 :: x6 :: x7 :: x8 :: x9 :: some (zI v) :: r)[10]? = some (some (zI v))), by simp⟩)
  refine lv_iinc (k := q) (v := Int32.ofInt (v + i)) hx hb hd hl.has hq (za_add v i) hL rfl (fun ls' hl' => ?_)
  refine k p l e s m args below meth c H locs ls' F J P S (zls.put1 (v := zI (v + i)) hl' (fun j w hj => ?_))
  by_cases hjk : j = 10
  · subst hjk
    refine Or.inl ⟨rfl, ?_⟩
    have h9 : (some (zI (v + i))) = some w := by simpa using hj
    exact (Option.some.inj h9).symm
  · refine Or.inr ⟨hjk, ?_, (fun e => hc w (by have e2 : j = 9 := (by omega); subst e2; simpa using hj))⟩
    rw [← hj]
    exact z_lset 10 rfl j hjk

theorem z_iload_11 {x0 x1 x2 x3 x4 x5 x6 x7 x8 x9 x10 : Option zV} {r : List (Option zV)} {v : Int} (hd : decode M.2.1 pc = .ok (.iload 11, 2)) (hn : pc + 2 = n) (k : zW G M B Q n (x0 :: x1 :: x2 :: x3 :: x4 :: x5 :: x6 :: x7 :: x8 :: x9 :: x10 :: some (zI v) :: r) (zI v :: stk) st) : zW G M B Q pc (x0 :: x1 :: x2 :: x3 :: x4 :: x5 :: x6 :: x7 :: x8 :: x9 :: x10 :: some (zI v) :: r) stk st := by
  intro p l e s m args below meth c H locs ls F J P S hl
  have hx := F.1
  have hb := F.2.1
  subst hn
  have k := k p l e s m args below meth c H locs ls F J P S hl
  refine lv_iload hx hb hd (hl.2.2 11 (zI v) rfl) ?_
  exact k

theorem z_istore_11 {x0 x1 x2 x3 x4 x5 x6 x7 x8 x9 x10 : Option zV} {y : Option zV} {r : List (Option zV)} {v : Int} (hd : decode M.2.1 pc = .ok (.istore 11, 2)) (hn : pc + 2 = n) (hL : 11 < M.2.2.1) (hc : ∀ w, x10 = some w → zcat w = 1) (k : zW G M B Q n (x0 :: x1 :: x2 :: x3 :: x4 :: x5 :: x6 :: x7 :: x8 :: x9 :: x10 :: some (zI v) :: r) stk st) : zW G M B Q pc (x0 :: x1 :: x2 :: x3 :: x4 :: x5 :: x6 :: x7 :: x8 :: x9 :: x10 :: y :: r) (zI v :: stk) st := by
  intro p l e s m args below meth c H locs ls F J P S hl
  have hx := F.1
  have hb := F.2.1
  subst hn
  refine lv_istore hx hb hd hl.has hL rfl (fun ls' hl' => ?_)
  refine k p l e s m args below meth c H locs ls' F J P S (zls.put1 (v := zI v) hl' (fun j w hj => ?_))
  by_cases hjk : j = 11
  · subst hjk
    refine Or.inl ⟨rfl, ?_⟩
    have h9 : (some (zI v)) = some w := by simpa using hj
    exact (Option.some.inj h9).symm
  · refine Or.inr ⟨hjk, ?_, (fun e => hc w (by have e2 : j = 10 := (by omega); subst e2; simpa using hj))⟩
    rw [← hj]
    exact z_lset 11 rfl j hjk

theorem z_aload_11 {x0 x1 x2 x3 x4 x5 x6 x7 x8 x9 x10 : Option zV} {r : List (Option zV)} {v : Nat} (hd : decode M.2.1 pc = .ok (.aload 11, 2)) (hn : pc + 2 = n) (k : zW G M B Q n (x0 :: x1 :: x2 :: x3 :: x4 :: x5 :: x6 :: x7 :: x8 :: x9 :: x10 :: some (zR v) :: r) (zR v :: stk) st) : zW G M B Q pc (x0 :: x1 :: x2 :: x3 :: x4 :: x5 :: x6 :: x7 :: x8 :: x9 :: x10 :: some (zR v) :: r) stk st := by
  intro p l e s m args below meth c H locs ls F J P S hl
  have hx := F.1
  have hb := F.2.1
  subst hn
  have k := k p l e s m args below meth c H locs ls F J P S hl
  refine lv_aload hx hb hd (hl.2.2 11 (zR v) rfl) ?_
  exact k

theorem z_astore_11 {x0 x1 x2 x3 x4 x5 x6 x7 x8 x9 x10 : Option zV} {y : Option zV} {r : List (Option zV)} {v : Nat} (hd : decode M.2.1 pc = .ok (.astore 11, 2)) (hn : pc + 2 = n) (hL : 11 < M.2.2.1) (hc : ∀ w, x10 = some w → zcat w = 1) (k : zW G M B Q n (x0 :: x1 :: x2 :: x3 :: x4 :: x5 :: x6 :: x7 :: x8 :: x9 :: x10 :: some (zR v) :: r) stk st) : zW G M B Q pc (x0 :: x1 :: x2 :: x3 :: x4 :: x5 :: x6 :: x7 :: x8 :: x9 :: x10 :: y :: r) (zR v :: stk) st := by
  intro p l e s m args below meth c H locs ls F J P S hl
  have hx := F.1
  have hb := F.2.1
  subst hn
  refine lv_astore hx hb hd hl.has hL rfl (fun ls' hl' => ?_)
  refine k p l e s m args below meth c H locs ls' F J P S (zls.put1 (v := zR v) hl' (fun j w hj => ?_))
  by_cases hjk : j = 11
  · subst hjk
    refine Or.inl ⟨rfl, ?_⟩
    have h9 : (some (zR v)) = some w := by simpa using hj
    exact (Option.some.inj h9).symm
  · refine Or.inr ⟨hjk, ?_, (fun e => hc w (by have e2 : j = 10 := (by omega); subst e2; simpa using hj))⟩
    rw [← hj]
    exact z_lset 11 rfl j hjk

theorem z_lload_11 {x0 x1 x2 x3 x4 x5 x6 x7 x8 x9 x10 : Option zV} {r : List (Option zV)} {v : Int} (hd : decode M.2.1 pc = .ok (.lload 11, 2)) (hn : pc + 2 = n) (k : zW G M B Q n (x0 :: x1 :: x2 :: x3 :: x4 :: x5 :: x6 :: x7 :: x8 :: x9 :: x10 :: some (zL v) :: r) (zL v :: stk) st) : zW G M B Q pc (x0 :: x1 :: x2 :: x3 :: x4 :: x5 :: x6 :: x7 :: x8 :: x9 :: x10 :: some (zL v) :: r) stk st := by
  intro p l e s m args below meth c H locs ls F J P S hl
  have hx := F.1
  have hb := F.2.1
  subst hn
  have k := k p l e s m args below meth c H locs ls F J P S hl
  refine lv_lload hx hb hd (hl.2.2 11 (zL v) rfl) ?_
  exact k

theorem z_lstore_11 {x0 x1 x2 x3 x4 x5 x6 x7 x8 x9 x10 : Option zV} {y y2 : Option zV} {r : List (Option zV)} {v : Int} (hd : decode M.2.1 pc = .ok (.lstore 11, 2)) (hn : pc + 2 = n) (hL : 11 + 1 < M.2.2.1) (hc : ∀ w, x10 = some w → zcat w = 1) (k : zW G M B Q n (x0 :: x1 :: x2 :: x3 :: x4 :: x5 :: x6 :: x7 :: x8 :: x9 :: x10 :: some (zL v) :: none :: r) stk st) : zW G M B Q pc (x0 :: x1 :: x2 :: x3 :: x4 :: x5 :: x6 :: x7 :: x8 :: x9 :: x10 :: y :: y2 :: r) (zL v :: stk) st := by
  intro p l e s m args below meth c H locs ls F J P S hl
  have hx := F.1
  have hb := F.2.1
  subst hn
  refine lv_lstore hx hb hd hl.has hL rfl (fun ls' hl' => ?_)
  refine k p l e s m args below meth c H locs ls' F J P S (zls.put2 (v := zL v) hl' (fun j w hj => ?_))
  by_cases hjk : j = 11
  · subst hjk
    refine Or.inl ⟨rfl, ?_⟩
    have h9 : (some (zL v)) = some w := by simpa using hj
    exact (Option.some.inj h9).symm
  · by_cases hj2 : j = 11 + 1
    · subst hj2
      have h9 : (none : Option zV) = some w := by simpa using hj
      cases h9
    · refine Or.inr ⟨hjk, hj2, ?_, (fun e => hc w (by have e2 : j = 10 := (by omega); subst e2; simpa using hj))⟩
      rw [← hj]
      exact z_lset2 11 rfl j hjk hj2

theorem z_iinc_11 {x0 x1 x2 x3 x4 x5 x6 x7 x8 x9 x10 : Option zV} {r : List (Option zV)} {v i : Int} (hd : decode M.2.1 pc = .ok (.iinc 11 i, 3)) (hn : pc + 3 = n) (hL : 11 < M.2.2.1) (hc : ∀ w, x10 = some w → zcat w = 1) (k : zW G M B Q n (x0 :: x1 :: x2 :: x3 :: x4 :: x5 :: x6 :: x7 :: x8 :: x9 :: x10 :: some (zI (v + i)) :: r) stk st) : zW G M B Q pc (x0 :: x1 :: x2 :: x3 :: x4 :: x5 :: x6 :: x7 :: x8 :: x9 :: x10 :: some (zI v) :: r) stk st := by
  intro p l e s m args below meth c H locs ls F J P S hl
  have hx := F.1
  have hb := F.2.1
  subst hn
  obtain ⟨q, hq⟩ := List.getElem?_of_mem ((zas_mem (G := G) _ 0 (11, zc G (zI v))).mpr ⟨11, zI v, (rfl : (x0 :: x1 :: x2 :: x3 :: x4 :: x5 :: x6 :: x7 :: x8 :: x9 :: x10 :: some (zI v) :: r)[11]? = some (some (zI v))), by simp⟩)
  refine lv_iinc (k := q) (v := Int32.ofInt (v + i)) hx hb hd hl.has hq (za_add v i) hL rfl (fun ls' hl' => ?_)
  refine k p l e s m args below meth c H locs ls' F J P S (zls.put1 (v := zI (v + i)) hl' (fun j w hj => ?_))
  by_cases hjk : j = 11
  · subst hjk
    refine Or.inl ⟨rfl, ?_⟩
    have h9 : (some (zI (v + i))) = some w := by simpa using hj
    exact (Option.some.inj h9).symm
  · refine Or.inr ⟨hjk, ?_, (fun e => hc w (by have e2 : j = 10 := (by omega); subst e2; simpa using hj))⟩
    rw [← hj]
    exact z_lset 11 rfl j hjk

end ZR
end
section
def zFd (own : String) (ix ci i : Nat) : Prop := ∃ (C : String) (T : u_T) (N : Nat), vwCl[ci]? = some (C, T, N) ∧ i < N ∧ Cond.fieldLink own ix (T i).1 (T i).2.1 (T i).2.2.1 ∈ zT ∧ (∀ w ∈ u_ws C T N, w ∈ zT)
def zFw (own : String) (ix ci i : Nat) (ty : FieldType) : Prop := ∃ (C : String) (T : u_T) (N : Nat) (tf : Nat → FieldType), vwCl[ci]? = some (C, T, N) ∧ i < N ∧ Cond.fieldLink own ix (T i).1 (T i).2.1 (T i).2.2.1 ∈ zT ∧ (∀ w ∈ u_ws C T N, w ∈ zT) ∧
  (∀ k, k < N → parseFieldDescriptor (T k).2.2.1 = some (tf k)) ∧ (∀ a, a < N → ∀ b, b < N → a ≠ b → (T a).2.1 ≠ (T b).2.1) ∧ (T i).2.2.2 = false ∧ parseFieldDescriptor (T i).2.2.1 = some ty
theorem zw_obj {G : zG} {st : zS} {k ci : Nat} {fs : List zV} (J : zJ st) (h : st k = zO ci fs) : (zw G st)[k]? = some (G.1 k, .inr (ci, fs.map (zc G))) := by
  rw [zw_at (J.lt h), h]; rfl
theorem zw_arr {G : zG} {st : zS} {k t n : Nat} {f : Int → Int} (J : zJ st) (h : st k = zA t n f) (ht : t ≠ 99) : (zw G st)[k]? = some (G.1 k, .inl (G.2.1 t, n, zcr G t f)) := by
  rw [zw_at (J.lta h ht), h]; rfl
section ZC
variable {G : zG} {M : zM} {B : Room × Nat × Nat} {Q : List Frame → Array Value → State → State → Prop} {pc n : Nat} {L : List (Option zV)} {stk : List zV} {st : zS}
theorem z_get {k ci i ix : Nat} {fs : List zV} {v : zV} (hd : decode M.2.1 pc = .ok (.getfield ix, 3)) (hn : pc + 3 = n) (hst : st k = zO ci fs) (hf : zFd M.1.cls ix ci i) (hv : fs[i]? = some v) (kk : zW G M B Q n L (v :: stk) st) : zW G M B Q pc L (zR k :: stk) st := by
  intro p l e s m args below meth c H locs ls F J P S hl
  have kk := kk p l e s m args below meth c H locs ls F J P S hl
  obtain ⟨C, T, N, h1, h2, h3, h4⟩ := hf
  obtain ⟨hx, hb, hr, hml, hown, hts, hlocks, hK, hI, hZ⟩ := F
  subst hn
  exact va_get hx hb hts h4 hown hK P k (zw_obj J hst) h1 i h2 (hts _ h3) (fun _ h9 => h9) (by rw [List.getElem?_map, hv]; rfl) hd kk
theorem z_putv {k ci i ix : Nat} {fs : List zV} {v : zV} {ty : FieldType} (hd : decode M.2.1 pc = .ok (.putfield ix, 3)) (hn : pc + 3 = n) (hst : st k = zO ci fs) (hf : zFw M.1.cls ix ci i ty) (hv : narrow ty (zc G v) = zc G v ∧ fits ty (zc G v) = true) (hi : i < fs.length) (kk : zW G M B Q n L stk (zu st k (zO ci (fs.set i v)))) : zW G M B Q pc L (v :: zR k :: stk) st := by
  intro p l e s m args below meth c H locs ls F J P S hl
  obtain ⟨C, T, N, tf, h1, h2, h3, h4, h5, h6, h7, h8⟩ := hf
  have F' := F
  obtain ⟨hx, hb, hr, hml, hown, hts, hlocks, hK, hI, hZ⟩ := F'
  subst hn
  refine va_put hx hb hts h4 tf h5 h6 hown hK P (zw_D hI) S k (zw_obj J hst) h1 i h2 (hts _ h3) (fun _ h9 => h9) h7 h8 hv.1 hv.2 (by simpa using hi) hd (fun H1 locs1 P1 D1 S1 => ?_)
  refine kk p l e s m args below meth c H1 locs1 ls F (J.set (J.lt hst)) ?_ S1 hl
  rw [← zw_set (J.lt hst)]
  have e : (Sum.inr (ci, (fs.map (zc G)).set i (zc G v)) : va_E) = zcc G (zO ci (fs.set i v)) := by
    show _ = (Sum.inr (ci, (fs.set i v).map (zc G)) : va_E)
    rw [List.map_set]
  rw [← e]
  exact P1
theorem z_put {k ci i ix : Nat} {fs : List zV} {a : Int} (hd : decode M.2.1 pc = .ok (.putfield ix, 3)) (hn : pc + 3 = n) (hst : st k = zO ci fs) (hf : zFw M.1.cls ix ci i .int) (hi : i < fs.length) (kk : zW G M B Q n L stk (zu st k (zO ci (fs.set i (zI a))))) : zW G M B Q pc L (zI a :: zR k :: stk) st :=
  z_putv hd hn hst hf ⟨rfl, rfl⟩ hi kk
theorem z_putL {k ci i ix : Nat} {fs : List zV} {a : Int} (hd : decode M.2.1 pc = .ok (.putfield ix, 3)) (hn : pc + 3 = n) (hst : st k = zO ci fs) (hf : zFw M.1.cls ix ci i .long) (hi : i < fs.length) (kk : zW G M B Q n L stk (zu st k (zO ci (fs.set i (zL a))))) : zW G M B Q pc L (zL a :: zR k :: stk) st :=
  z_putv hd hn hst hf ⟨rfl, rfl⟩ hi kk
theorem z_putZ {k ci i ix : Nat} {fs : List zV} {a : Int} (hd : decode M.2.1 pc = .ok (.putfield ix, 3)) (hn : pc + 3 = n) (hst : st k = zO ci fs) (hf : zFw M.1.cls ix ci i .boolean) (ha : a = 0 ∨ a = 1) (hi : i < fs.length) (kk : zW G M B Q n L stk (zu st k (zO ci (fs.set i (zI a))))) : zW G M B Q pc L (zI a :: zR k :: stk) st :=
  z_putv hd hn hst hf (by rcases ha with rfl | rfl <;> exact ⟨rfl, rfl⟩) hi kk
theorem zcr1 {G : zG} {t : Nat} (f : Int → Int) (h2 : t ≠ 2) (h4 : t ≠ 4) : zcr G t f = .inl (fun j => Int32.ofInt (f j)) := by rw [zcr, if_neg h2, if_neg h4]
theorem zcr_upd {f : Int → Int} {i v : Int} (h0 : 0 ≤ i) : upd (fun j => Int32.ofInt (f j)) i.toNat (Int32.ofInt v) = (fun j : Nat => Int32.ofInt (zf f i v j)) := by
  funext j
  by_cases hj : j = i.toNat
  · subst hj
    have : ((i.toNat : Nat) : Int) = i := Int.toNat_of_nonneg h0
    simp [upd, zf, this]
  · have : ¬ ((j : Int) = i) := by omega
    simp [upd, zf, hj, this]
theorem zcr_updL {f : Int → Int} {i v : Int} (h0 : 0 ≤ i) : vp_updL (fun j => Int64.ofInt (f j)) i.toNat (Int64.ofInt v) = (fun j : Nat => Int64.ofInt (zf f i v j)) := by
  funext j
  by_cases hj : j = i.toNat
  · subst hj
    have : ((i.toNat : Nat) : Int) = i := Int.toNat_of_nonneg h0
    simp [vp_updL, zf, this]
  · have : ¬ ((j : Int) = i) := by omega
    simp [vp_updL, zf, hj, this]
theorem z_iald {k N : Nat} {f : Int → Int} {i : Int} (hd : decode M.2.1 pc = .ok (.iaload, 1)) (hn : pc + 1 = n) (hst : st k = zA 1 N f) (h0 : 0 ≤ i) (h1 : i < N) (h2 : N < 2147483648) (kk : zW G M B Q n L (zI (f i) :: stk) st) : zW G M B Q pc L (zI i :: zR k :: stk) st := by
  intro p l e s m args below meth c H locs ls F J P S hl
  have kk := kk p l e s m args below meth c H locs ls F J P S hl
  obtain ⟨hx, hb, hr, hml, hown, hts, hlocks, hK, hI, hZ⟩ := F
  subst hn
  have hw := zw_arr (G := G) J hst (by decide)
  rw [zcr1 f (by decide) (by decide)] at hw
  refine va_iald hx hb hK P k 1 hw rfl (za_in h0 h1 h2) hd ?_
  rw [za_cl h0 (by omega), Int.toNat_of_nonneg h0]
  exact kk
theorem z_bald {k N : Nat} {f : Int → Int} {i : Int} (hd : decode M.2.1 pc = .ok (.baload, 1)) (hn : pc + 1 = n) (hst : st k = zA 0 N f) (h0 : 0 ≤ i) (h1 : i < N) (h2 : N < 2147483648) (kk : zW G M B Q n L (zI (f i) :: stk) st) : zW G M B Q pc L (zI i :: zR k :: stk) st := by
  intro p l e s m args below meth c H locs ls F J P S hl
  have kk := kk p l e s m args below meth c H locs ls F J P S hl
  obtain ⟨hx, hb, hr, hml, hown, hts, hlocks, hK, hI, hZ⟩ := F
  subst hn
  have hw := zw_arr (G := G) J hst (by decide)
  rw [zcr1 f (by decide) (by decide)] at hw
  refine va_bald hx hb hK P k 0 hw rfl (za_in h0 h1 h2) hd ?_
  rw [za_cl h0 (by omega), Int.toNat_of_nonneg h0]
  exact kk
theorem z_zald {k N : Nat} {f : Int → Int} {i : Int} (hd : decode M.2.1 pc = .ok (.baload, 1)) (hn : pc + 1 = n) (hst : st k = zA 3 N f) (h0 : 0 ≤ i) (h1 : i < N) (h2 : N < 2147483648) (kk : zW G M B Q n L (zI (f i) :: stk) st) : zW G M B Q pc L (zI i :: zR k :: stk) st := by
  intro p l e s m args below meth c H locs ls F J P S hl
  have kk := kk p l e s m args below meth c H locs ls F J P S hl
  obtain ⟨hx, hb, hr, hml, hown, hts, hlocks, hK, hI, hZ⟩ := F
  subst hn
  have hw := zw_arr (G := G) J hst (by decide)
  rw [zcr1 f (by decide) (by decide)] at hw
  refine va_zald hx hb hK P k 3 hw rfl (za_in h0 h1 h2) hd ?_
  rw [za_cl h0 (by omega), Int.toNat_of_nonneg h0]
  exact kk
theorem z_lald {k N : Nat} {f : Int → Int} {i : Int} (hd : decode M.2.1 pc = .ok (.laload, 1)) (hn : pc + 1 = n) (hst : st k = zA 2 N f) (h0 : 0 ≤ i) (h1 : i < N) (h2 : N < 2147483648) (kk : zW G M B Q n L (zL (f i) :: stk) st) : zW G M B Q pc L (zI i :: zR k :: stk) st := by
  intro p l e s m args below meth c H locs ls F J P S hl
  have kk := kk p l e s m args below meth c H locs ls F J P S hl
  obtain ⟨hx, hb, hr, hml, hown, hts, hlocks, hK, hI, hZ⟩ := F
  subst hn
  refine va_lald hx hb hK P k 2 (zw_arr (G := G) J hst (by decide)) rfl (za_in h0 h1 h2) hd ?_
  show W _ _ _ _ _ _ _ _ _ _ _ _ _ _ _ (F0 m _ ls (.long (Int64.ofInt (f (((Int32.ofInt i).toNatClampNeg : Nat) : Int))) :: _))
  rw [za_cl h0 (by omega), Int.toNat_of_nonneg h0]
  exact kk
theorem z_aald {k N : Nat} {f : Int → Int} {i : Int} (hd : decode M.2.1 pc = .ok (.aaload, 1)) (hn : pc + 1 = n) (hst : st k = zA 4 N f) (h0 : 0 ≤ i) (h1 : i < N) (h2 : N < 2147483648) (kk : zW G M B Q n L (zR (f i).toNat :: stk) st) : zW G M B Q pc L (zI i :: zR k :: stk) st := by
  intro p l e s m args below meth c H locs ls F J P S hl
  have kk := kk p l e s m args below meth c H locs ls F J P S hl
  obtain ⟨hx, hb, hr, hml, hown, hts, hlocks, hK, hI, hZ⟩ := F
  subst hn
  refine va_aldq hx hb hK P k 4 (zw_arr (G := G) J hst (by decide)) rfl (za_in h0 h1 h2) hd ?_
  show W _ _ _ _ _ _ _ _ _ _ _ _ _ _ _ (F0 m _ ls (.ref (G.1 (f (((Int32.ofInt i).toNatClampNeg : Nat) : Int)).toNat) :: _))
  rw [za_cl h0 (by omega), Int.toNat_of_nonneg h0]
  exact kk
theorem z_alen {k t N : Nat} {f : Int → Int} (hd : decode M.2.1 pc = .ok (.arraylength, 1)) (hn : pc + 1 = n) (hst : st k = zA t N f) (ht : t < 5) (kk : zW G M B Q n L (zI N :: stk) st) : zW G M B Q pc L (zR k :: stk) st := by
  intro p l e s m args below meth c H locs ls F J P S hl
  have kk := kk p l e s m args below meth c H locs ls F J P S hl
  obtain ⟨hx, hb, hr, hml, hown, hts, hlocks, hK, hI, hZ⟩ := F
  subst hn
  have hty : ∃ ty, (zty G)[t]? = some (G.2.1 t, ty) := by
    match t, ht with
    | 0, _ => exact ⟨_, rfl⟩
    | 1, _ => exact ⟨_, rfl⟩
    | 2, _ => exact ⟨_, rfl⟩
    | 3, _ => exact ⟨_, rfl⟩
    | 4, _ => exact ⟨_, rfl⟩
  obtain ⟨ty, hty⟩ := hty
  exact va_alen hx hb hK P k t (zw_arr (G := G) J hst (by omega)) hty (v := Int32.ofInt N) Int32.ofInt_eq_ofNat.symm hd kk
theorem z_iast {k N : Nat} {f : Int → Int} {i v : Int} (hd : decode M.2.1 pc = .ok (.iastore, 1)) (hn : pc + 1 = n) (hst : st k = zA 1 N f) (h0 : 0 ≤ i) (h1 : i < N) (h2 : N < 2147483648) (kk : zW G M B Q n L stk (zu st k (zA 1 N (zf f i v)))) : zW G M B Q pc L (zI v :: zI i :: zR k :: stk) st := by
  intro p l e s m args below meth c H locs ls F J P S hl
  have F' := F
  obtain ⟨hx, hb, hr, hml, hown, hts, hlocks, hK, hI, hZ⟩ := F'
  subst hn
  have hw := zw_arr (G := G) J hst (by decide)
  rw [zcr1 f (by decide) (by decide)] at hw
  refine va_iast hx hb hK P (zw_D hI) S k 1 hw rfl (za_in h0 h1 h2) hd (fun H1 locs1 P1 D1 S1 => ?_)
  refine kk p l e s m args below meth c H1 locs1 ls F (J.set (J.lta hst (by decide))) ?_ S1 hl
  rw [← zw_set (J.lta hst (by decide))]
  have e2 : zcc G (zA 1 N (zf f i v)) = (Sum.inl (G.2.1 1, N, Sum.inl (upd (fun j => Int32.ofInt (f j)) (Int32.ofInt i).toNatClampNeg (Int32.ofInt v))) : va_E) := by
    rw [za_cl h0 (by omega), zcr_upd h0]; rfl
  rw [e2]
  exact P1
theorem z_last {k N : Nat} {f : Int → Int} {i v : Int} (hd : decode M.2.1 pc = .ok (.lastore, 1)) (hn : pc + 1 = n) (hst : st k = zA 2 N f) (h0 : 0 ≤ i) (h1 : i < N) (h2 : N < 2147483648) (kk : zW G M B Q n L stk (zu st k (zA 2 N (zf f i v)))) : zW G M B Q pc L (zL v :: zI i :: zR k :: stk) st := by
  intro p l e s m args below meth c H locs ls F J P S hl
  have F' := F
  obtain ⟨hx, hb, hr, hml, hown, hts, hlocks, hK, hI, hZ⟩ := F'
  subst hn
  have hw := zw_arr (G := G) J hst (by decide)
  refine va_last hx hb hK P (zw_D hI) S k 2 hw rfl (za_in h0 h1 h2) hd (fun H1 locs1 P1 D1 S1 => ?_)
  refine kk p l e s m args below meth c H1 locs1 ls F (J.set (J.lta hst (by decide))) ?_ S1 hl
  rw [← zw_set (J.lta hst (by decide))]
  have e2 : zcc G (zA 2 N (zf f i v)) = (Sum.inl (G.2.1 2, N, Sum.inr (Sum.inl (vp_updL (fun j => Int64.ofInt (f j)) (Int32.ofInt i).toNatClampNeg (Int64.ofInt v)))) : va_E) := by
    rw [za_cl h0 (by omega), zcr_updL h0]; rfl
  rw [e2]
  exact P1
theorem z_bast {k N : Nat} {f : Int → Int} {i v : Int} (hd : decode M.2.1 pc = .ok (.bastore, 1)) (hn : pc + 1 = n) (hst : st k = zA 0 N f) (h0 : 0 ≤ i) (h1 : i < N) (h2 : N < 2147483648) (h3 : -128 ≤ v) (h4 : v < 128) (kk : zW G M B Q n L stk (zu st k (zA 0 N (zf f i v)))) : zW G M B Q pc L (zI v :: zI i :: zR k :: stk) st := by
  intro p l e s m args below meth c H locs ls F J P S hl
  have F' := F
  obtain ⟨hx, hb, hr, hml, hown, hts, hlocks, hK, hI, hZ⟩ := F'
  subst hn
  have hw := zw_arr (G := G) J hst (by decide)
  rw [zcr1 f (by decide) (by decide)] at hw
  refine va_bast hx hb hK P (zw_D hI) S k 0 hw rfl (za_in h0 h1 h2) hd (fun H1 locs1 P1 D1 S1 => ?_)
  refine kk p l e s m args below meth c H1 locs1 ls F (J.set (J.lta hst (by decide))) ?_ S1 hl
  rw [← zw_set (J.lta hst (by decide))]
  have e2 : zcc G (zA 0 N (zf f i v)) = (Sum.inl (G.2.1 0, N, Sum.inl (upd (fun j => Int32.ofInt (f j)) (Int32.ofInt i).toNatClampNeg (vp_nar .byte (Int32.ofInt v)))) : va_E) := by
    rw [za_bast h3 h4, za_cl h0 (by omega), zcr_upd h0]; rfl
  rw [e2]
  exact P1
theorem z_zast {k N : Nat} {f : Int → Int} {i v : Int} (hd : decode M.2.1 pc = .ok (.bastore, 1)) (hn : pc + 1 = n) (hst : st k = zA 3 N f) (h0 : 0 ≤ i) (h1 : i < N) (h2 : N < 2147483648) (h3 : v = 0 ∨ v = 1) (kk : zW G M B Q n L stk (zu st k (zA 3 N (zf f i v)))) : zW G M B Q pc L (zI v :: zI i :: zR k :: stk) st := by
  intro p l e s m args below meth c H locs ls F J P S hl
  have F' := F
  obtain ⟨hx, hb, hr, hml, hown, hts, hlocks, hK, hI, hZ⟩ := F'
  subst hn
  have hw := zw_arr (G := G) J hst (by decide)
  rw [zcr1 f (by decide) (by decide)] at hw
  refine va_zast hx hb hK P (zw_D hI) S k 3 hw rfl (za_in h0 h1 h2) hd (fun H1 locs1 P1 D1 S1 => ?_)
  refine kk p l e s m args below meth c H1 locs1 ls F (J.set (J.lta hst (by decide))) ?_ S1 hl
  rw [← zw_set (J.lta hst (by decide))]
  have e3 : vp_nar .boolean (Int32.ofInt v) = Int32.ofInt v := by rcases h3 with rfl | rfl <;> rfl
  have e2 : zcc G (zA 3 N (zf f i v)) = (Sum.inl (G.2.1 3, N, Sum.inl (upd (fun j => Int32.ofInt (f j)) (Int32.ofInt i).toNatClampNeg (vp_nar .boolean (Int32.ofInt v)))) : va_E) := by
    rw [e3, za_cl h0 (by omega), zcr_upd h0]; rfl
  rw [e2]
  exact P1
/-- the table of the sorts -/
theorem z_gets {ix : Nat} (hd : decode M.2.1 pc = .ok (.getstatic ix, 3)) (hn : pc + 3 = n) (hw : Cond.fieldLink M.1.cls ix RX6 "SORTS_OF_YES" "[I" ∈ zT) (kk : zW G M B Q n L (zR 90 :: stk) st) : zW G M B Q pc L stk st := by
  intro p l e s m args below meth c H locs ls F J P S hl
  have kk := kk p l e s m args below meth c H locs ls F J P S hl
  obtain ⟨hx, hb, hr, hml, hown, hts, hlocks, hK, hI, hZ⟩ := F
  subst hn
  exact va_gets hx hb hZ.1 S hown (hts _ hw) (fun _ h => h) hd kk
theorem z_sald {i : Int} (hd : decode M.2.1 pc = .ok (.iaload, 1)) (hn : pc + 1 = n) (h0 : 0 ≤ i) (h1 : i < 4) (kk : zW G M B Q n L (zI (zsy i) :: stk) st) : zW G M B Q pc L (zI i :: zR 90 :: stk) st := by
  intro p l e s m args below meth c H locs ls F J P S hl
  have kk := kk p l e s m args below meth c H locs ls F J P S hl
  obtain ⟨hx, hb, hr, hml, hown, hts, hlocks, hK, hI, hZ⟩ := F
  subst hn
  refine va_ti hx hb hZ.2.1 S (za_in h0 h1 (by decide)) (v := .int (Int32.ofInt (zsy i))) ?_ hd kk
  rw [za_cl h0 (by omega), Int.toNat_of_nonneg h0]
/-- the script -/
theorem z_xald {i : Int} (hd : decode M.2.1 pc = .ok (.iaload, 1)) (hn : pc + 1 = n) (h0 : 0 ≤ i) (h1 : i < G.2.2.2.1) (h2 : G.2.2.2.1 < 2147483648) (kk : zW G M B Q n L (zI (G.2.2.2.2 i.toNat).toInt :: stk) st) : zW G M B Q pc L (zI i :: zR 95 :: stk) st := by
  intro p l e s m args below meth c H locs ls F J P S hl
  have kk := kk p l e s m args below meth c H locs ls F J P S hl
  obtain ⟨hx, hb, hr, hml, hown, hts, hlocks, hK, hI, hZ⟩ := F
  subst hn
  refine va_ti hx hb hZ.2.2.1 S (za_in h0 h1 h2) (v := .int (Int32.ofInt (G.2.2.2.2 i.toNat).toInt)) ?_ hd kk
  rw [za_cl h0 (by omega), Int32.ofInt_toInt]
theorem z_xlen (hd : decode M.2.1 pc = .ok (.arraylength, 1)) (hn : pc + 1 = n) (kk : zW G M B Q n L (zI G.2.2.2.1 :: stk) st) : zW G M B Q pc L (zR 95 :: stk) st := by
  intro p l e s m args below meth c H locs ls F J P S hl
  have kk := kk p l e s m args below meth c H locs ls F J P S hl
  obtain ⟨hx, hb, hr, hml, hown, hts, hlocks, hK, hI, hZ⟩ := F
  subst hn
  exact va_tlen hx hb hZ.2.2.1 S (v := Int32.ofInt G.2.2.2.1) Int32.ofInt_eq_ofNat.symm hd kk
/-- switches -/
theorem z_tsIn {a dflt lo hi off : Int} {offs : Array Int} {len tg : Nat} (hd : decode M.2.1 pc = .ok (.tableswitch dflt lo hi offs, len)) (ha : zr a) (h1 : lo ≤ a) (h2 : a ≤ hi) (ho : offs[(a - lo).toNat]? = some off) (ht : (pc : Int) + off = (tg : Int)) (k : zW G M B Q tg L stk st) : zW G M B Q pc L (zI a :: stk) st := by
  intro p l e s m args below meth c H locs ls F J P S hl
  have k := k p l e s m args below meth c H locs ls F J P S hl
  exact lv_tableIn F.1 F.2.1 hd (by rw [za_to ha]; omega) (by rw [za_to ha]; omega) (by rw [za_to ha]; exact ho) ht k
theorem z_tsOut {a dflt lo hi : Int} {offs : Array Int} {len tg : Nat} (hd : decode M.2.1 pc = .ok (.tableswitch dflt lo hi offs, len)) (ha : zr a) (h : a < lo ∨ hi < a) (ht : (pc : Int) + dflt = (tg : Int)) (k : zW G M B Q tg L stk st) : zW G M B Q pc L (zI a :: stk) st := by
  intro p l e s m args below meth c H locs ls F J P S hl
  have k := k p l e s m args below meth c H locs ls F J P S hl
  exact lv_tableOut F.1 F.2.1 hd (by rw [za_to ha]; exact h) ht k
theorem z_ls {a dflt off : Int} {ps : Array (Int × Int)} {len tg : Nat} (hd : decode M.2.1 pc = .ok (.lookupswitch dflt ps, len)) (ha : zr a) (hp : (ps.toList.zip (ps.toList.drop 1)).all (fun (a, next) => a.1 < next.1) = true) (ho : Op.lookupswitch.offset ps.toList dflt a = off) (ht : (pc : Int) + off = (tg : Int)) (k : zW G M B Q tg L stk st) : zW G M B Q pc L (zI a :: stk) st := by
  intro p l e s m args below meth c H locs ls F J P S hl
  have k := k p l e s m args below meth c H locs ls F J P S hl
  exact lv_lookup F.1 F.2.1 hd hp (by rw [za_to ha]; exact ho) ht k
/-- longs that are the same or not, and the branch behind it -/
theorem z_lcmp_eq {a b off : Int} {n2 tg : Nat} (hd : decode M.2.1 pc = .ok (.lcmp, 1)) (hn : pc + 1 = n) (hd2 : decode M.2.1 n = .ok (.ifCond .eq off, 3)) (hn2 : n + 3 = n2) (ht : (n : Int) + off = (tg : Int)) (hab : Int64.ofInt a = Int64.ofInt b ↔ a = b) (kt : a = b → zW G M B Q tg L stk st) (kf : a ≠ b → zW G M B Q n2 L stk st) : zW G M B Q pc L (zL b :: zL a :: stk) st := by
  intro p l e s m args below meth c H locs ls F J P S hl
  subst hn hn2
  refine W.lcmp F.1 F.2.1 hd ?_
  have hc : lg_cmp (Int64.ofInt a) (Int64.ofInt b) = 0 ↔ a = b := by
    rw [← hab]
    have h3 : Int64.ofInt a < Int64.ofInt b ∨ Int64.ofInt a = Int64.ofInt b ∨ Int64.ofInt b < Int64.ofInt a := by
      rw [Int64.lt_iff_toInt_lt, Int64.lt_iff_toInt_lt, ← Int64.toInt_inj]; omega
    unfold lg_cmp
    rcases h3 with h | h | h
    · have h4 : ¬ Int64.ofInt a = Int64.ofInt b := fun z => by rw [z, Int64.lt_iff_toInt_lt] at h; omega
      have h5 : ¬ Int64.ofInt b < Int64.ofInt a := fun z => by rw [Int64.lt_iff_toInt_lt] at h z; omega
      simp [h4, h5]
    · simp [h, Int64.lt_iff_toInt_lt]
    · have h4 : ¬ Int64.ofInt a = Int64.ofInt b := fun z => by rw [z, Int64.lt_iff_toInt_lt] at h; omega
      have h5 : ¬ Int64.ofInt a < Int64.ofInt b := fun z => by rw [Int64.lt_iff_toInt_lt] at h z; omega
      simp [h4, h5, h]
  exact lv_if_eq F.1 F.2.1 hd2 ht (fun h => kt (hc.mp h) p l e s m args below meth c H locs ls F J P S hl) (fun h => kf (fun z => h (hc.mpr z)) p l e s m args below meth c H locs ls F J P S hl)
end ZC
end
section
theorem zNW_form {w : Cond} (h : w ∈ zNW) : ∃ a i x hh, w = Cond.methodLinkNest a i x hh := by
  have h1 := (List.mem_filter.mp h).2
  cases w <;> first | exact ⟨_, _, _, _, rfl⟩ | cases h1
theorem zStat.warm {G : zG} {s U : State} {locs : List Loc} (hW : s.WarmedH U.vm) (hS : va_S (zAd G) s.heap U.heap locs) (h : zStat G s) : zStat G U := by
  have hk : ∀ a : Nat, a < s.heap.size → ¬ zAd G a → U.heap[a]? = s.heap[a]? := fun a h1 h2 => hS.2.1 a h1 h2
  obtain ⟨h1, h2, h3, h4, h5, h6, h7, h8⟩ := h
  refine ⟨va_Z.moved hW.alike (h1.kept hk), va_T.moved hW.alike (h2.kept hk), va_T.moved hW.alike (h3.kept hk), fun w hw => ?_, h5.warm hW, vk_S.moved hW.alike (h6.kept hk), va_Z.moved hW.alike (h7.kept hk), va_Zq.moved hW.alike (h8.kept hk)⟩
  obtain ⟨a, i, x, hh, rfl⟩ := zNW_form hw
  exact va_Nw.warmM hW (h4 _ hw)
theorem zStat.same {G : zG} {u U : State} (hv : U.vm = u.vm) (hh : U.heap = u.heap) (h : zStat G u) : zStat G U := by
  have ha : u.vm.Alike U.vm := by rw [hv]; exact Vm.Alike.refl _
  obtain ⟨h1, h2, h3, h4, h5, h6, h7, h8⟩ := h
  rw [← hh] at h1 h2 h3 h6 h7 h8
  refine ⟨va_Z.moved ha h1, va_T.moved ha h2, va_T.moved ha h3, fun w hw => ?_, h5.same hv, vk_S.moved ha h6, va_Z.moved ha h7, va_Zq.moved ha h8⟩
  obtain ⟨a, i, x, hh, rfl⟩ := zNW_form hw
  exact va_Nw.same rfl hv.symm (h4 _ hw)
theorem zPre_blind {G : zG} {st : zS} {av : List zV} : FrameBlind (va_Pc (av.map (zc G)) (zPre G st)) := by
  intro a U g mk h
  obtain ⟨h0, h1, h2, h3, h4, h5⟩ := h
  exact ⟨h0, h1, va_K.moved (u := U) (U := U.calling g mk a) (Vm.Alike.refl U.vm) h2, h3, zStat.same (u := U) (U := U.calling g mk a) rfl rfl h4, h5⟩
theorem zPre_at {G : zG} {st : zS} {av : List zV} {s U : State} {H : Heap} {locs : List Loc} (hK : va_K G.2.2.1 vwCl (zty G) s) (hI : zInj G) (hZ : zStat G s) (J : zJ st) (P : va_P G.2.2.1 vwCl (zw G st) H) (S : va_S (zAd G) s.heap H locs) (hU : U.heap = H) (hW : s.WarmedH U.vm) : va_Pc (av.map (zc G)) (zPre G st) (av.map (zc G)).toArray U := by
  subst hU
  exact ⟨rfl, P, va_K.moved hW.alike hK, hI, hZ.warm hW S, J⟩
theorem zT_good {w : Cond} (h : w ∈ zT) : (w.onTables && w.keeps) = true ∨ ∃ ty, w = .arrayClass ty := good_of_word (List.mem_filter.mp h).2
/-- what a call needs to know of the method that is called -/
def zMe (M : zM) (k : Nat) : Prop := zcode M ∈ zT ∧ Cond.initialized M.1.cls ∈ zT ∧ M.1.cls ≠ "java/lang/invoke/MethodHandle" ∧ M.1.cls ≠ "java/lang/invoke/VarHandle" ∧ (parseMethodDescriptor M.1.desc).map (fun d => d.parameters.length) = some k
def zMv (M : zM) (k ci : Nat) : Prop := zMe M k ∧ Cond.instanceMethod M.1 ∈ zT ∧ Cond.selects M.1.cls M.1 M.1 ∈ zT ∧ ∃ (T : u_T) (N : Nat), vwCl[ci]? = some (M.1.cls, T, N)
def zMs (M : zM) (k : Nat) : Prop := zMe M k ∧ Cond.static M.1 ∈ zT
def zroom (M' : zM) (d' : Nat) (B : Room × Nat × Nat) : Prop := d' + 1 ≤ B.1.frames ∧ 8 + (M'.2.2.1 + 11) + 40 * d' ≤ B.1.locals ∧ B.2.1 ≤ B.1.cells ∧ B.2.2 ≤ B.1.slots
theorem zGood {M' : zM} (h : zcode M' ∈ zT) : GoodIn zT (zws M') := by
  intro w hw
  rcases List.mem_cons.mp hw with rfl | hw
  · exact ⟨h, zT_good h⟩
  · exact ⟨hw, zT_good hw⟩
theorem zCallB {M' : zM} {d' k ix : Nat} {own : String} {R : Room} {s : State} {args : Array Value} (hts : ∀ w ∈ zT, w.before args s = true) (hm : zMe M' k) (hl : Cond.methodLink own ix M'.1 ∈ zT) (h1 : d' + 1 ≤ R.frames) (h2 : 8 + (M'.2.2.1 + 11) + 40 * d' ≤ R.locals) : CallB R s args own ix M'.1 M'.2.1 M'.2.2.1 M'.2.2.2 (zws M') (zRm d') 0 0 k :=
  callB_of k hts (zGood hm.1) rfl rfl rfl (hts _ hm.2.1) (hts _ hl) hm.2.2 ⟨h1, h2⟩
theorem zcats {G : zG} (stk : List zV) : ((stk.map (zc G)).map fun v => v.category).sum = (stk.map zcat).sum := by
  rw [List.map_map]
  congr 1
  apply List.map_congr_left
  intro v _
  exact zc_cat G v
section ZK
variable {G : zG} {M : zM} {B : Room × Nat × Nat} {Q : List Frame → Array Value → State → State → Prop} {pc n : Nat} {L : List (Option zV)} {stk : List zV} {st : zS}
/-- a method begins -/
theorem z_enter {d : Nat} {av : List zV} {post : Option zV → zS → Prop} {L' : List (Option zV)} (hy : plainName M.1.cls = true) (hv : (lg_sl (av.map (zc G))).length ≤ M.2.2.1) (hL : ∃ r, zent av ++ List.replicate r none = L') (h : zWP G M d post 0 L' [] st) : zSem G M d av st post := by
  intro l
  refine Met.ofW (cc := M.2.1) (maxL := M.2.2.1) (ret := M.2.2.2) hy rfl ?_
  intro p e s m args below meth c s₁ Bd hml hvv
  obtain ⟨rfl, hP, hK, hI, hZ, hJ⟩ := hvv
  have hts := atoms_spec (ws := zws M) Bd.pre
  have hown : s.vm.findClass M.1.cls = some m.cls := findClass_of_methodNamed Bd.named
  have hl := lv_entry (av.map (zc G)) (n := M.2.2.1) hv
  rw [lg_entry_eq]
  obtain ⟨r, rfl⟩ := hL
  refine h p l e s m _ below meth c s.heap [] _ ⟨Bd.exec, Bd.bytes, Bd.returns, hml, hown, fun w hw => hts w (List.mem_cons_of_mem _ hw), Bd.notSynchronized, hK, hI, hZ⟩ hJ hP va_S.rf ?_
  refine ⟨hl.1, hl.2.1, fun i v hi => ?_⟩
  have hi' : (zent av)[i]? = some (some v) := by
    rcases Nat.lt_or_ge i (zent av).length with h1 | h1
    · rwa [List.getElem?_append_left h1] at hi
    · rw [List.getElem?_append_right h1] at hi
      have h2 := List.mem_of_getElem? hi
      rw [List.mem_replicate] at h2
      cases h2.2
  have := zent_ok (G := G) av 0 i v hi'
  rw [Nat.zero_add] at this
  exact hl.2.2 _ this
theorem z_fin {post : Option zV → zS → Prop} {r : Option zV} {s t : State} {H : Heap} {args : Array Value} {locs : List Loc} (h : post r st) (J : zJ st) (P : va_P G.2.2.1 vwCl (zw G st) H) (S : va_S (zAd G) s.heap H locs) (ht : t.heap = H) : zQ G post args s (.returned (r.map (zc G))) t :=
  ⟨⟨r, st, rfl, h, by rw [ht]; exact P, J⟩, S.F ht⟩
theorem z_ireturn {d : Nat} {post : Option zV → zS → Prop} {a : Int} (hd : decode M.2.1 pc = .ok (.ireturn, 1)) (hr : M.2.2.2 = some .int) (h : post (some (zI a)) st) : zWP G M d post pc L [zI a] st := by
  intro p l e s m args below meth c H locs ls F J P S hl
  obtain ⟨hx, hb, hr', hml, hown, hts, hlocks, hK, hI, hZ⟩ := F
  exact W.iret hx hb (hr'.trans hr) (fun t ht hW => z_fin (r := some (zI a)) h J P S ht) S.2.2 hd
theorem z_zreturn {d : Nat} {post : Option zV → zS → Prop} {a : Int} (hd : decode M.2.1 pc = .ok (.ireturn, 1)) (hr : M.2.2.2 = some .boolean) (ha : a = 0 ∨ a = 1) (h : post (some (zI a)) st) : zWP G M d post pc L [zI a] st := by
  intro p l e s m args below meth c H locs ls F J P S hl
  obtain ⟨hx, hb, hr', hml, hown, hts, hlocks, hK, hI, hZ⟩ := F
  exact W.zret hx hb (hr'.trans hr) (by rcases ha with rfl | rfl <;> rfl) (fun t ht hW => z_fin (r := some (zI a)) h J P S ht) S.2.2 hd
theorem z_nreturn {d : Nat} {ty : FieldType} {post : Option zV → zS → Prop} {a : Int} (hd : decode M.2.1 pc = .ok (.ireturn, 1)) (hr : M.2.2.2 = some ty) (ha : narrow ty (.int (Int32.ofInt a)) = .int (Int32.ofInt a)) (h : post (some (zI a)) st) : zWP G M d post pc L [zI a] st := by
  intro p l e s m args below meth c H locs ls F J P S hl
  obtain ⟨hx, hb, hr', hml, hown, hts, hlocks, hK, hI, hZ⟩ := F
  exact W.zret hx hb (hr'.trans hr) ha (fun t ht hW => z_fin (r := some (zI a)) h J P S ht) S.2.2 hd
theorem z_lreturn {d : Nat} {post : Option zV → zS → Prop} {a : Int} (hd : decode M.2.1 pc = .ok (.lreturn, 1)) (hr : M.2.2.2 = some .long) (h : post (some (zL a)) st) : zWP G M d post pc L [zL a] st := by
  intro p l e s m args below meth c H locs ls F J P S hl
  obtain ⟨hx, hb, hr', hml, hown, hts, hlocks, hK, hI, hZ⟩ := F
  exact W.lret hx hb (hr'.trans hr) (fun t ht hW => z_fin (r := some (zL a)) h J P S ht) S.2.2 hd
theorem z_return {d : Nat} {post : Option zV → zS → Prop} (hd : decode M.2.1 pc = .ok (.return_, 1)) (hr : M.2.2.2 = none) (h : post none st) : zWP G M d post pc L [] st := by
  intro p l e s m args below meth c H locs ls F J P S hl
  obtain ⟨hx, hb, hr', hml, hown, hts, hlocks, hK, hI, hZ⟩ := F
  exact W.vret hx hb (hr'.trans hr) (fun t ht hW => z_fin (r := none) h J P S ht) S.2.2 hd
/-- behind a call -/
theorem z_back {post : Option zV → zS → Prop} {p : Program} {l : Launch} {e : Env} {R : Room} {s : State} {m : MethodId} {args a : Array Value} {below : List Frame} {meth : Method} {c : Code} {H : Heap} {locs : List Loc} {cells slots : Nat} {Qs : State → Prop} {ls : Array Slot} {st0 rest : List Value}
    (hr : va_Run p l e R s m args below meth c H locs cells slots 0 0 (F0 m pc ls st0) rest (zQ G post a) (zAd G)) (hS : va_S (zAd G) s.heap H locs)
    (kk : ∀ (r : Option zV) (u : zS) (H1 : Heap) (locs1 : List Loc), post r u → va_P G.2.2.1 vwCl (zw G u) H1 → zJ u → va_S (zAd G) s.heap H1 locs1 → W p l e R s m args below meth c H1 locs1 cells slots Qs (F0 m (pc + 3) ls ((r.map (zc G)).toList ++ rest))) : W p l e R s m args below meth c H locs cells slots Qs (F0 m pc ls st0) := by
  intro T hT X
  obtain ⟨v, st₀, t, T', Lc, h0, X', hLc, e1, e2, ⟨⟨r, u, hv, hp, hP, hJ⟩, hz, hk⟩, stp⟩ := hr T hT X
  cases hv
  rw [h0] at hz hk
  obtain ⟨t2, a1, b1⟩ := kk r u T'.heap (locs ++ Lc) hp (by rw [e1]; exact hP) hJ
    ⟨Nat.le_trans hS.1 (by rw [e1]; exact hz), fun q h1 h2 => by rw [e1, hk q (Nat.lt_of_lt_of_le h1 hS.1) h2]; exact hS.2.1 q h1 h2, fun q hq => by
      rcases List.mem_append.mp hq with h | h
      · exact hS.2.2 q h
      · exact hLc q h⟩ T' rfl X'
  exact ⟨t2, stp t2 a1, b1⟩
theorem z_callV {M' : zM} {d' k ix ci na : Nat} {fs As : List zV} {post : Option zV → zS → Prop} (hd : decode M.2.1 pc = .ok (.invokevirtual ix, 3)) (hn : pc + 3 = n) (hM : zSem G M' d' (zR k :: As) st post) (hm : zMv M' na ci) (hl : Cond.methodLink M.1.cls ix M'.1 ∈ zT) (hst : st k = zO ci fs) (hA : As.length = na) (hro : zroom M' d' B) (hs : (stk.map zcat).sum ≤ 8) (kk : ∀ r u, post r u → zW G M B Q n L (r.toList ++ stk) u) : zW G M B Q pc L (As.reverse ++ zR k :: stk) st := by
  intro p l e s m args below meth c H locs ls F J P S hls
  have F' := F
  obtain ⟨hx, hb, hr, hml, hown, hts, hlocks, hK, hI, hZ⟩ := F'
  obtain ⟨hme, hin, hse, T, N, hcl⟩ := hm
  subst hn
  obtain ⟨r1, r2, r3, r4⟩ := hro
  refine z_back (post := post) (rest := stk.map (zc G)) (a := (Value.ref (G.1 k) :: As.map (zc G)).toArray) (va_runV (C := M'.1.cls) (As := As.map (zc G)) (b := G.1 k) ⟨hx, hb, hml, hown, hts⟩ (hM l) ⟨zCallB hts hme hl r1 r2, hts _ hin, hts _ hse⟩ ⟨zPre_blind, va_recv hK P hcl (zw_obj J hst), fun U hU hW => zPre_at (av := zR k :: As) hK hI hZ J P S hU hW⟩ rfl (by rw [List.length_map]; exact hA) hls.1 (by simp [List.map_reverse]; rfl) (lv_room (by rw [zcats]; exact hs)) hd ⟨r3, r4⟩) S ?_
  intro r u H1 locs1 hp hP hJ hS1
  have := kk r u hp p l e s m args below meth c H1 locs1 ls F hJ hP hS1 hls
  rw [List.map_append] at this
  cases r <;> exact this
theorem z_callS {M' : zM} {d' ix na : Nat} {As : List zV} {post : Option zV → zS → Prop} (hd : decode M.2.1 pc = .ok (.invokestatic ix, 3)) (hn : pc + 3 = n) (hM : zSem G M' d' As st post) (hm : zMs M' na) (hl : Cond.methodLink M.1.cls ix M'.1 ∈ zT) (hA : As.length = na) (hro : zroom M' d' B) (hs : (stk.map zcat).sum ≤ 8) (kk : ∀ r u, post r u → zW G M B Q n L (r.toList ++ stk) u) : zW G M B Q pc L (As.reverse ++ stk) st := by
  intro p l e s m args below meth c H locs ls F J P S hls
  have F' := F
  obtain ⟨hx, hb, hr, hml, hown, hts, hlocks, hK, hI, hZ⟩ := F'
  obtain ⟨hme, hsta⟩ := hm
  subst hn
  obtain ⟨r1, r2, r3, r4⟩ := hro
  refine z_back (post := post) (rest := stk.map (zc G)) (a := (As.map (zc G)).toArray) (va_runS (As := As.map (zc G)) ⟨hx, hb, hml, hown, hts⟩ (hM l) ⟨zCallB hts hme hl r1 r2, hts _ hsta⟩ ⟨zPre_blind, fun U hU hW => zPre_at (av := As) hK hI hZ J P S hU hW⟩ rfl (by rw [List.length_map]; exact hA) hls.1 (by simp [List.map_reverse]) (lv_room (by rw [zcats]; exact hs)) hd ⟨r3, r4⟩) S ?_
  intro r u H1 locs1 hp hP hJ hS1
  have := kk r u hp p l e s m args below meth c H1 locs1 ls F hJ hP hS1 hls
  rw [List.map_append] at this
  cases r <;> exact this
theorem z_callN {M' : zM} {host : String} {d' ix na : Nat} {As : List zV} {post : Option zV → zS → Prop} (hd : decode M.2.1 pc = .ok (.invokestatic ix, 3)) (hn : pc + 3 = n) (hM : zSem G M' d' As st post) (hm : zMs M' na) (hl : Cond.methodLinkNest M.1.cls ix M'.1 host ∈ zNW) (hA : As.length = na) (hro : zroom M' d' B) (hs : (stk.map zcat).sum ≤ 8) (kk : ∀ r u, post r u → zW G M B Q n L (r.toList ++ stk) u) : zW G M B Q pc L (As.reverse ++ stk) st := by
  intro p l e s m args below meth c H locs ls F J P S hls
  have F' := F
  obtain ⟨hx, hb, hr, hml, hown, hts, hlocks, hK, hI, hZ⟩ := F'
  obtain ⟨hme, hsta⟩ := hm
  subst hn
  obtain ⟨r1, r2, r3, r4⟩ := hro
  refine z_back (post := post) (rest := stk.map (zc G)) (a := (As.map (zc G)).toArray) (va_runSN (As := As.map (zc G)) ⟨hx, hb, hml, hown, hts⟩ (hM l) ⟨va_cnB na hts (zGood hme.1) rfl rfl rfl (hZ.2.2.2.1 _ hl) (hts _ hme.2.1) hme.2.2 ⟨r1, r2⟩, hts _ hsta, trivial⟩ ⟨zPre_blind, fun U hU hW => zPre_at (av := As) hK hI hZ J P S hU hW⟩ rfl (by rw [List.length_map]; exact hA) hls.1 (by simp [List.map_reverse]) (lv_room (by rw [zcats]; exact hs)) hd ⟨r3, r4⟩) S ?_
  intro r u H1 locs1 hp hP hJ hS1
  have := kk r u hp p l e s m args below meth c H1 locs1 ls F hJ hP hS1 hls
  rw [List.map_append] at this
  cases r <;> exact this
/-- answers: an int, a long, nothing -/
def zpi (P : Int → zS → Prop) : Option zV → zS → Prop := fun r u => ∃ x, r = some (zI x) ∧ P x u
def zpl (P : Int → zS → Prop) : Option zV → zS → Prop := fun r u => ∃ x, r = some (zL x) ∧ P x u
def zpv (P : zS → Prop) : Option zV → zS → Prop := fun r u => r = none ∧ P u

theorem z_callV0i {M' : zM} {d' k ix ci : Nat} {fs : List zV} {P : Int → zS → Prop} (hd : decode M.2.1 pc = .ok (.invokevirtual ix, 3)) (hn : pc + 3 = n) (hm : zMv M' 0 ci) (hl : Cond.methodLink M.1.cls ix M'.1 ∈ zT) (hst : st k = zO ci fs) (hro : zroom M' d' B) (hs : (stk.map zcat).sum ≤ 8) (hM : zSem G M' d' (zR k :: []) st (zpi P)) (kk : ∀ (x : Int) (u : zS), P x u → zW G M B Q n L (zI x :: stk) u) : zW G M B Q pc L (zR k :: stk) st :=
  z_callV (As := []) hd hn hM hm hl hst rfl hro hs (fun r u h => by obtain ⟨x, rfl, hP⟩ := h; exact kk x u hP)

theorem z_callS0i {M' : zM} {d' ix : Nat} {P : Int → zS → Prop} (hd : decode M.2.1 pc = .ok (.invokestatic ix, 3)) (hn : pc + 3 = n) (hm : zMs M' 0) (hl : Cond.methodLink M.1.cls ix M'.1 ∈ zT) (hro : zroom M' d' B) (hs : (stk.map zcat).sum ≤ 8) (hM : zSem G M' d' [] st (zpi P)) (kk : ∀ (x : Int) (u : zS), P x u → zW G M B Q n L (zI x :: stk) u) : zW G M B Q pc L (stk) st :=
  z_callS (As := []) hd hn hM hm hl rfl hro hs (fun r u h => by obtain ⟨x, rfl, hP⟩ := h; exact kk x u hP)

theorem z_callN0i {M' : zM} {host : String} {d' ix : Nat} {P : Int → zS → Prop} (hd : decode M.2.1 pc = .ok (.invokestatic ix, 3)) (hn : pc + 3 = n) (hm : zMs M' 0) (hl : Cond.methodLinkNest M.1.cls ix M'.1 host ∈ zNW) (hro : zroom M' d' B) (hs : (stk.map zcat).sum ≤ 8) (hM : zSem G M' d' [] st (zpi P)) (kk : ∀ (x : Int) (u : zS), P x u → zW G M B Q n L (zI x :: stk) u) : zW G M B Q pc L (stk) st :=
  z_callN (As := []) hd hn hM hm hl rfl hro hs (fun r u h => by obtain ⟨x, rfl, hP⟩ := h; exact kk x u hP)

theorem z_callV0l {M' : zM} {d' k ix ci : Nat} {fs : List zV} {P : Int → zS → Prop} (hd : decode M.2.1 pc = .ok (.invokevirtual ix, 3)) (hn : pc + 3 = n) (hm : zMv M' 0 ci) (hl : Cond.methodLink M.1.cls ix M'.1 ∈ zT) (hst : st k = zO ci fs) (hro : zroom M' d' B) (hs : (stk.map zcat).sum ≤ 8) (hM : zSem G M' d' (zR k :: []) st (zpl P)) (kk : ∀ (x : Int) (u : zS), P x u → zW G M B Q n L (zL x :: stk) u) : zW G M B Q pc L (zR k :: stk) st :=
  z_callV (As := []) hd hn hM hm hl hst rfl hro hs (fun r u h => by obtain ⟨x, rfl, hP⟩ := h; exact kk x u hP)

theorem z_callS0l {M' : zM} {d' ix : Nat} {P : Int → zS → Prop} (hd : decode M.2.1 pc = .ok (.invokestatic ix, 3)) (hn : pc + 3 = n) (hm : zMs M' 0) (hl : Cond.methodLink M.1.cls ix M'.1 ∈ zT) (hro : zroom M' d' B) (hs : (stk.map zcat).sum ≤ 8) (hM : zSem G M' d' [] st (zpl P)) (kk : ∀ (x : Int) (u : zS), P x u → zW G M B Q n L (zL x :: stk) u) : zW G M B Q pc L (stk) st :=
  z_callS (As := []) hd hn hM hm hl rfl hro hs (fun r u h => by obtain ⟨x, rfl, hP⟩ := h; exact kk x u hP)

theorem z_callN0l {M' : zM} {host : String} {d' ix : Nat} {P : Int → zS → Prop} (hd : decode M.2.1 pc = .ok (.invokestatic ix, 3)) (hn : pc + 3 = n) (hm : zMs M' 0) (hl : Cond.methodLinkNest M.1.cls ix M'.1 host ∈ zNW) (hro : zroom M' d' B) (hs : (stk.map zcat).sum ≤ 8) (hM : zSem G M' d' [] st (zpl P)) (kk : ∀ (x : Int) (u : zS), P x u → zW G M B Q n L (zL x :: stk) u) : zW G M B Q pc L (stk) st :=
  z_callN (As := []) hd hn hM hm hl rfl hro hs (fun r u h => by obtain ⟨x, rfl, hP⟩ := h; exact kk x u hP)

theorem z_callV0v {M' : zM} {d' k ix ci : Nat} {fs : List zV} {P : zS → Prop} (hd : decode M.2.1 pc = .ok (.invokevirtual ix, 3)) (hn : pc + 3 = n) (hm : zMv M' 0 ci) (hl : Cond.methodLink M.1.cls ix M'.1 ∈ zT) (hst : st k = zO ci fs) (hro : zroom M' d' B) (hs : (stk.map zcat).sum ≤ 8) (hM : zSem G M' d' (zR k :: []) st (zpv P)) (kk : ∀ (u : zS), P u → zW G M B Q n L stk u) : zW G M B Q pc L (zR k :: stk) st :=
  z_callV (As := []) hd hn hM hm hl hst rfl hro hs (fun r u h => by obtain ⟨rfl, hP⟩ := h; exact kk u hP)

theorem z_callS0v {M' : zM} {d' ix : Nat} {P : zS → Prop} (hd : decode M.2.1 pc = .ok (.invokestatic ix, 3)) (hn : pc + 3 = n) (hm : zMs M' 0) (hl : Cond.methodLink M.1.cls ix M'.1 ∈ zT) (hro : zroom M' d' B) (hs : (stk.map zcat).sum ≤ 8) (hM : zSem G M' d' [] st (zpv P)) (kk : ∀ (u : zS), P u → zW G M B Q n L stk u) : zW G M B Q pc L (stk) st :=
  z_callS (As := []) hd hn hM hm hl rfl hro hs (fun r u h => by obtain ⟨rfl, hP⟩ := h; exact kk u hP)

theorem z_callN0v {M' : zM} {host : String} {d' ix : Nat} {P : zS → Prop} (hd : decode M.2.1 pc = .ok (.invokestatic ix, 3)) (hn : pc + 3 = n) (hm : zMs M' 0) (hl : Cond.methodLinkNest M.1.cls ix M'.1 host ∈ zNW) (hro : zroom M' d' B) (hs : (stk.map zcat).sum ≤ 8) (hM : zSem G M' d' [] st (zpv P)) (kk : ∀ (u : zS), P u → zW G M B Q n L stk u) : zW G M B Q pc L (stk) st :=
  z_callN (As := []) hd hn hM hm hl rfl hro hs (fun r u h => by obtain ⟨rfl, hP⟩ := h; exact kk u hP)

theorem z_callV1i {M' : zM} {d' k ix ci : Nat} {fs : List zV} {a0 : zV} {P : Int → zS → Prop} (hd : decode M.2.1 pc = .ok (.invokevirtual ix, 3)) (hn : pc + 3 = n) (hm : zMv M' 1 ci) (hl : Cond.methodLink M.1.cls ix M'.1 ∈ zT) (hst : st k = zO ci fs) (hro : zroom M' d' B) (hs : (stk.map zcat).sum ≤ 8) (hM : zSem G M' d' (zR k :: [a0]) st (zpi P)) (kk : ∀ (x : Int) (u : zS), P x u → zW G M B Q n L (zI x :: stk) u) : zW G M B Q pc L (a0 :: zR k :: stk) st :=
  z_callV (As := [a0]) hd hn hM hm hl hst rfl hro hs (fun r u h => by obtain ⟨x, rfl, hP⟩ := h; exact kk x u hP)

theorem z_callS1i {M' : zM} {d' ix : Nat} {a0 : zV} {P : Int → zS → Prop} (hd : decode M.2.1 pc = .ok (.invokestatic ix, 3)) (hn : pc + 3 = n) (hm : zMs M' 1) (hl : Cond.methodLink M.1.cls ix M'.1 ∈ zT) (hro : zroom M' d' B) (hs : (stk.map zcat).sum ≤ 8) (hM : zSem G M' d' [a0] st (zpi P)) (kk : ∀ (x : Int) (u : zS), P x u → zW G M B Q n L (zI x :: stk) u) : zW G M B Q pc L (a0 :: stk) st :=
  z_callS (As := [a0]) hd hn hM hm hl rfl hro hs (fun r u h => by obtain ⟨x, rfl, hP⟩ := h; exact kk x u hP)

theorem z_callN1i {M' : zM} {host : String} {d' ix : Nat} {a0 : zV} {P : Int → zS → Prop} (hd : decode M.2.1 pc = .ok (.invokestatic ix, 3)) (hn : pc + 3 = n) (hm : zMs M' 1) (hl : Cond.methodLinkNest M.1.cls ix M'.1 host ∈ zNW) (hro : zroom M' d' B) (hs : (stk.map zcat).sum ≤ 8) (hM : zSem G M' d' [a0] st (zpi P)) (kk : ∀ (x : Int) (u : zS), P x u → zW G M B Q n L (zI x :: stk) u) : zW G M B Q pc L (a0 :: stk) st :=
  z_callN (As := [a0]) hd hn hM hm hl rfl hro hs (fun r u h => by obtain ⟨x, rfl, hP⟩ := h; exact kk x u hP)

theorem z_callV1l {M' : zM} {d' k ix ci : Nat} {fs : List zV} {a0 : zV} {P : Int → zS → Prop} (hd : decode M.2.1 pc = .ok (.invokevirtual ix, 3)) (hn : pc + 3 = n) (hm : zMv M' 1 ci) (hl : Cond.methodLink M.1.cls ix M'.1 ∈ zT) (hst : st k = zO ci fs) (hro : zroom M' d' B) (hs : (stk.map zcat).sum ≤ 8) (hM : zSem G M' d' (zR k :: [a0]) st (zpl P)) (kk : ∀ (x : Int) (u : zS), P x u → zW G M B Q n L (zL x :: stk) u) : zW G M B Q pc L (a0 :: zR k :: stk) st :=
  z_callV (As := [a0]) hd hn hM hm hl hst rfl hro hs (fun r u h => by obtain ⟨x, rfl, hP⟩ := h; exact kk x u hP)

theorem z_callS1l {M' : zM} {d' ix : Nat} {a0 : zV} {P : Int → zS → Prop} (hd : decode M.2.1 pc = .ok (.invokestatic ix, 3)) (hn : pc + 3 = n) (hm : zMs M' 1) (hl : Cond.methodLink M.1.cls ix M'.1 ∈ zT) (hro : zroom M' d' B) (hs : (stk.map zcat).sum ≤ 8) (hM : zSem G M' d' [a0] st (zpl P)) (kk : ∀ (x : Int) (u : zS), P x u → zW G M B Q n L (zL x :: stk) u) : zW G M B Q pc L (a0 :: stk) st :=
  z_callS (As := [a0]) hd hn hM hm hl rfl hro hs (fun r u h => by obtain ⟨x, rfl, hP⟩ := h; exact kk x u hP)

theorem z_callN1l {M' : zM} {host : String} {d' ix : Nat} {a0 : zV} {P : Int → zS → Prop} (hd : decode M.2.1 pc = .ok (.invokestatic ix, 3)) (hn : pc + 3 = n) (hm : zMs M' 1) (hl : Cond.methodLinkNest M.1.cls ix M'.1 host ∈ zNW) (hro : zroom M' d' B) (hs : (stk.map zcat).sum ≤ 8) (hM : zSem G M' d' [a0] st (zpl P)) (kk : ∀ (x : Int) (u : zS), P x u → zW G M B Q n L (zL x :: stk) u) : zW G M B Q pc L (a0 :: stk) st :=
  z_callN (As := [a0]) hd hn hM hm hl rfl hro hs (fun r u h => by obtain ⟨x, rfl, hP⟩ := h; exact kk x u hP)

theorem z_callV1v {M' : zM} {d' k ix ci : Nat} {fs : List zV} {a0 : zV} {P : zS → Prop} (hd : decode M.2.1 pc = .ok (.invokevirtual ix, 3)) (hn : pc + 3 = n) (hm : zMv M' 1 ci) (hl : Cond.methodLink M.1.cls ix M'.1 ∈ zT) (hst : st k = zO ci fs) (hro : zroom M' d' B) (hs : (stk.map zcat).sum ≤ 8) (hM : zSem G M' d' (zR k :: [a0]) st (zpv P)) (kk : ∀ (u : zS), P u → zW G M B Q n L stk u) : zW G M B Q pc L (a0 :: zR k :: stk) st :=
  z_callV (As := [a0]) hd hn hM hm hl hst rfl hro hs (fun r u h => by obtain ⟨rfl, hP⟩ := h; exact kk u hP)

theorem z_callS1v {M' : zM} {d' ix : Nat} {a0 : zV} {P : zS → Prop} (hd : decode M.2.1 pc = .ok (.invokestatic ix, 3)) (hn : pc + 3 = n) (hm : zMs M' 1) (hl : Cond.methodLink M.1.cls ix M'.1 ∈ zT) (hro : zroom M' d' B) (hs : (stk.map zcat).sum ≤ 8) (hM : zSem G M' d' [a0] st (zpv P)) (kk : ∀ (u : zS), P u → zW G M B Q n L stk u) : zW G M B Q pc L (a0 :: stk) st :=
  z_callS (As := [a0]) hd hn hM hm hl rfl hro hs (fun r u h => by obtain ⟨rfl, hP⟩ := h; exact kk u hP)

theorem z_callN1v {M' : zM} {host : String} {d' ix : Nat} {a0 : zV} {P : zS → Prop} (hd : decode M.2.1 pc = .ok (.invokestatic ix, 3)) (hn : pc + 3 = n) (hm : zMs M' 1) (hl : Cond.methodLinkNest M.1.cls ix M'.1 host ∈ zNW) (hro : zroom M' d' B) (hs : (stk.map zcat).sum ≤ 8) (hM : zSem G M' d' [a0] st (zpv P)) (kk : ∀ (u : zS), P u → zW G M B Q n L stk u) : zW G M B Q pc L (a0 :: stk) st :=
  z_callN (As := [a0]) hd hn hM hm hl rfl hro hs (fun r u h => by obtain ⟨rfl, hP⟩ := h; exact kk u hP)

theorem z_callV2i {M' : zM} {d' k ix ci : Nat} {fs : List zV} {a0 a1 : zV} {P : Int → zS → Prop} (hd : decode M.2.1 pc = .ok (.invokevirtual ix, 3)) (hn : pc + 3 = n) (hm : zMv M' 2 ci) (hl : Cond.methodLink M.1.cls ix M'.1 ∈ zT) (hst : st k = zO ci fs) (hro : zroom M' d' B) (hs : (stk.map zcat).sum ≤ 8) (hM : zSem G M' d' (zR k :: [a0, a1]) st (zpi P)) (kk : ∀ (x : Int) (u : zS), P x u → zW G M B Q n L (zI x :: stk) u) : zW G M B Q pc L (a1 :: a0 :: zR k :: stk) st :=
  z_callV (As := [a0, a1]) hd hn hM hm hl hst rfl hro hs (fun r u h => by obtain ⟨x, rfl, hP⟩ := h; exact kk x u hP)

theorem z_callS2i {M' : zM} {d' ix : Nat} {a0 a1 : zV} {P : Int → zS → Prop} (hd : decode M.2.1 pc = .ok (.invokestatic ix, 3)) (hn : pc + 3 = n) (hm : zMs M' 2) (hl : Cond.methodLink M.1.cls ix M'.1 ∈ zT) (hro : zroom M' d' B) (hs : (stk.map zcat).sum ≤ 8) (hM : zSem G M' d' [a0, a1] st (zpi P)) (kk : ∀ (x : Int) (u : zS), P x u → zW G M B Q n L (zI x :: stk) u) : zW G M B Q pc L (a1 :: a0 :: stk) st :=
  z_callS (As := [a0, a1]) hd hn hM hm hl rfl hro hs (fun r u h => by obtain ⟨x, rfl, hP⟩ := h; exact kk x u hP)

theorem z_callN2i {M' : zM} {host : String} {d' ix : Nat} {a0 a1 : zV} {P : Int → zS → Prop} (hd : decode M.2.1 pc = .ok (.invokestatic ix, 3)) (hn : pc + 3 = n) (hm : zMs M' 2) (hl : Cond.methodLinkNest M.1.cls ix M'.1 host ∈ zNW) (hro : zroom M' d' B) (hs : (stk.map zcat).sum ≤ 8) (hM : zSem G M' d' [a0, a1] st (zpi P)) (kk : ∀ (x : Int) (u : zS), P x u → zW G M B Q n L (zI x :: stk) u) : zW G M B Q pc L (a1 :: a0 :: stk) st :=
  z_callN (As := [a0, a1]) hd hn hM hm hl rfl hro hs (fun r u h => by obtain ⟨x, rfl, hP⟩ := h; exact kk x u hP)

theorem z_callV2l {M' : zM} {d' k ix ci : Nat} {fs : List zV} {a0 a1 : zV} {P : Int → zS → Prop} (hd : decode M.2.1 pc = .ok (.invokevirtual ix, 3)) (hn : pc + 3 = n) (hm : zMv M' 2 ci) (hl : Cond.methodLink M.1.cls ix M'.1 ∈ zT) (hst : st k = zO ci fs) (hro : zroom M' d' B) (hs : (stk.map zcat).sum ≤ 8) (hM : zSem G M' d' (zR k :: [a0, a1]) st (zpl P)) (kk : ∀ (x : Int) (u : zS), P x u → zW G M B Q n L (zL x :: stk) u) : zW G M B Q pc L (a1 :: a0 :: zR k :: stk) st :=
  z_callV (As := [a0, a1]) hd hn hM hm hl hst rfl hro hs (fun r u h => by obtain ⟨x, rfl, hP⟩ := h; exact kk x u hP)

theorem z_callS2l {M' : zM} {d' ix : Nat} {a0 a1 : zV} {P : Int → zS → Prop} (hd : decode M.2.1 pc = .ok (.invokestatic ix, 3)) (hn : pc + 3 = n) (hm : zMs M' 2) (hl : Cond.methodLink M.1.cls ix M'.1 ∈ zT) (hro : zroom M' d' B) (hs : (stk.map zcat).sum ≤ 8) (hM : zSem G M' d' [a0, a1] st (zpl P)) (kk : ∀ (x : Int) (u : zS), P x u → zW G M B Q n L (zL x :: stk) u) : zW G M B Q pc L (a1 :: a0 :: stk) st :=
  z_callS (As := [a0, a1]) hd hn hM hm hl rfl hro hs (fun r u h => by obtain ⟨x, rfl, hP⟩ := h; exact kk x u hP)

theorem z_callN2l {M' : zM} {host : String} {d' ix : Nat} {a0 a1 : zV} {P : Int → zS → Prop} (hd : decode M.2.1 pc = .ok (.invokestatic ix, 3)) (hn : pc + 3 = n) (hm : zMs M' 2) (hl : Cond.methodLinkNest M.1.cls ix M'.1 host ∈ zNW) (hro : zroom M' d' B) (hs : (stk.map zcat).sum ≤ 8) (hM : zSem G M' d' [a0, a1] st (zpl P)) (kk : ∀ (x : Int) (u : zS), P x u → zW G M B Q n L (zL x :: stk) u) : zW G M B Q pc L (a1 :: a0 :: stk) st :=
  z_callN (As := [a0, a1]) hd hn hM hm hl rfl hro hs (fun r u h => by obtain ⟨x, rfl, hP⟩ := h; exact kk x u hP)

theorem z_callV2v {M' : zM} {d' k ix ci : Nat} {fs : List zV} {a0 a1 : zV} {P : zS → Prop} (hd : decode M.2.1 pc = .ok (.invokevirtual ix, 3)) (hn : pc + 3 = n) (hm : zMv M' 2 ci) (hl : Cond.methodLink M.1.cls ix M'.1 ∈ zT) (hst : st k = zO ci fs) (hro : zroom M' d' B) (hs : (stk.map zcat).sum ≤ 8) (hM : zSem G M' d' (zR k :: [a0, a1]) st (zpv P)) (kk : ∀ (u : zS), P u → zW G M B Q n L stk u) : zW G M B Q pc L (a1 :: a0 :: zR k :: stk) st :=
  z_callV (As := [a0, a1]) hd hn hM hm hl hst rfl hro hs (fun r u h => by obtain ⟨rfl, hP⟩ := h; exact kk u hP)

theorem z_callS2v {M' : zM} {d' ix : Nat} {a0 a1 : zV} {P : zS → Prop} (hd : decode M.2.1 pc = .ok (.invokestatic ix, 3)) (hn : pc + 3 = n) (hm : zMs M' 2) (hl : Cond.methodLink M.1.cls ix M'.1 ∈ zT) (hro : zroom M' d' B) (hs : (stk.map zcat).sum ≤ 8) (hM : zSem G M' d' [a0, a1] st (zpv P)) (kk : ∀ (u : zS), P u → zW G M B Q n L stk u) : zW G M B Q pc L (a1 :: a0 :: stk) st :=
  z_callS (As := [a0, a1]) hd hn hM hm hl rfl hro hs (fun r u h => by obtain ⟨rfl, hP⟩ := h; exact kk u hP)

theorem z_callN2v {M' : zM} {host : String} {d' ix : Nat} {a0 a1 : zV} {P : zS → Prop} (hd : decode M.2.1 pc = .ok (.invokestatic ix, 3)) (hn : pc + 3 = n) (hm : zMs M' 2) (hl : Cond.methodLinkNest M.1.cls ix M'.1 host ∈ zNW) (hro : zroom M' d' B) (hs : (stk.map zcat).sum ≤ 8) (hM : zSem G M' d' [a0, a1] st (zpv P)) (kk : ∀ (u : zS), P u → zW G M B Q n L stk u) : zW G M B Q pc L (a1 :: a0 :: stk) st :=
  z_callN (As := [a0, a1]) hd hn hM hm hl rfl hro hs (fun r u h => by obtain ⟨rfl, hP⟩ := h; exact kk u hP)

theorem z_callV3i {M' : zM} {d' k ix ci : Nat} {fs : List zV} {a0 a1 a2 : zV} {P : Int → zS → Prop} (hd : decode M.2.1 pc = .ok (.invokevirtual ix, 3)) (hn : pc + 3 = n) (hm : zMv M' 3 ci) (hl : Cond.methodLink M.1.cls ix M'.1 ∈ zT) (hst : st k = zO ci fs) (hro : zroom M' d' B) (hs : (stk.map zcat).sum ≤ 8) (hM : zSem G M' d' (zR k :: [a0, a1, a2]) st (zpi P)) (kk : ∀ (x : Int) (u : zS), P x u → zW G M B Q n L (zI x :: stk) u) : zW G M B Q pc L (a2 :: a1 :: a0 :: zR k :: stk) st :=
  z_callV (As := [a0, a1, a2]) hd hn hM hm hl hst rfl hro hs (fun r u h => by obtain ⟨x, rfl, hP⟩ := h; exact kk x u hP)

theorem z_callS3i {M' : zM} {d' ix : Nat} {a0 a1 a2 : zV} {P : Int → zS → Prop} (hd : decode M.2.1 pc = .ok (.invokestatic ix, 3)) (hn : pc + 3 = n) (hm : zMs M' 3) (hl : Cond.methodLink M.1.cls ix M'.1 ∈ zT) (hro : zroom M' d' B) (hs : (stk.map zcat).sum ≤ 8) (hM : zSem G M' d' [a0, a1, a2] st (zpi P)) (kk : ∀ (x : Int) (u : zS), P x u → zW G M B Q n L (zI x :: stk) u) : zW G M B Q pc L (a2 :: a1 :: a0 :: stk) st :=
  z_callS (As := [a0, a1, a2]) hd hn hM hm hl rfl hro hs (fun r u h => by obtain ⟨x, rfl, hP⟩ := h; exact kk x u hP)

theorem z_callN3i {M' : zM} {host : String} {d' ix : Nat} {a0 a1 a2 : zV} {P : Int → zS → Prop} (hd : decode M.2.1 pc = .ok (.invokestatic ix, 3)) (hn : pc + 3 = n) (hm : zMs M' 3) (hl : Cond.methodLinkNest M.1.cls ix M'.1 host ∈ zNW) (hro : zroom M' d' B) (hs : (stk.map zcat).sum ≤ 8) (hM : zSem G M' d' [a0, a1, a2] st (zpi P)) (kk : ∀ (x : Int) (u : zS), P x u → zW G M B Q n L (zI x :: stk) u) : zW G M B Q pc L (a2 :: a1 :: a0 :: stk) st :=
  z_callN (As := [a0, a1, a2]) hd hn hM hm hl rfl hro hs (fun r u h => by obtain ⟨x, rfl, hP⟩ := h; exact kk x u hP)

theorem z_callV3l {M' : zM} {d' k ix ci : Nat} {fs : List zV} {a0 a1 a2 : zV} {P : Int → zS → Prop} (hd : decode M.2.1 pc = .ok (.invokevirtual ix, 3)) (hn : pc + 3 = n) (hm : zMv M' 3 ci) (hl : Cond.methodLink M.1.cls ix M'.1 ∈ zT) (hst : st k = zO ci fs) (hro : zroom M' d' B) (hs : (stk.map zcat).sum ≤ 8) (hM : zSem G M' d' (zR k :: [a0, a1, a2]) st (zpl P)) (kk : ∀ (x : Int) (u : zS), P x u → zW G M B Q n L (zL x :: stk) u) : zW G M B Q pc L (a2 :: a1 :: a0 :: zR k :: stk) st :=
  z_callV (As := [a0, a1, a2]) hd hn hM hm hl hst rfl hro hs (fun r u h => by obtain ⟨x, rfl, hP⟩ := h; exact kk x u hP)

theorem z_callS3l {M' : zM} {d' ix : Nat} {a0 a1 a2 : zV} {P : Int → zS → Prop} (hd : decode M.2.1 pc = .ok (.invokestatic ix, 3)) (hn : pc + 3 = n) (hm : zMs M' 3) (hl : Cond.methodLink M.1.cls ix M'.1 ∈ zT) (hro : zroom M' d' B) (hs : (stk.map zcat).sum ≤ 8) (hM : zSem G M' d' [a0, a1, a2] st (zpl P)) (kk : ∀ (x : Int) (u : zS), P x u → zW G M B Q n L (zL x :: stk) u) : zW G M B Q pc L (a2 :: a1 :: a0 :: stk) st :=
  z_callS (As := [a0, a1, a2]) hd hn hM hm hl rfl hro hs (fun r u h => by obtain ⟨x, rfl, hP⟩ := h; exact kk x u hP)

theorem z_callN3l {M' : zM} {host : String} {d' ix : Nat} {a0 a1 a2 : zV} {P : Int → zS → Prop} (hd : decode M.2.1 pc = .ok (.invokestatic ix, 3)) (hn : pc + 3 = n) (hm : zMs M' 3) (hl : Cond.methodLinkNest M.1.cls ix M'.1 host ∈ zNW) (hro : zroom M' d' B) (hs : (stk.map zcat).sum ≤ 8) (hM : zSem G M' d' [a0, a1, a2] st (zpl P)) (kk : ∀ (x : Int) (u : zS), P x u → zW G M B Q n L (zL x :: stk) u) : zW G M B Q pc L (a2 :: a1 :: a0 :: stk) st :=
  z_callN (As := [a0, a1, a2]) hd hn hM hm hl rfl hro hs (fun r u h => by obtain ⟨x, rfl, hP⟩ := h; exact kk x u hP)

theorem z_callV3v {M' : zM} {d' k ix ci : Nat} {fs : List zV} {a0 a1 a2 : zV} {P : zS → Prop} (hd : decode M.2.1 pc = .ok (.invokevirtual ix, 3)) (hn : pc + 3 = n) (hm : zMv M' 3 ci) (hl : Cond.methodLink M.1.cls ix M'.1 ∈ zT) (hst : st k = zO ci fs) (hro : zroom M' d' B) (hs : (stk.map zcat).sum ≤ 8) (hM : zSem G M' d' (zR k :: [a0, a1, a2]) st (zpv P)) (kk : ∀ (u : zS), P u → zW G M B Q n L stk u) : zW G M B Q pc L (a2 :: a1 :: a0 :: zR k :: stk) st :=
  z_callV (As := [a0, a1, a2]) hd hn hM hm hl hst rfl hro hs (fun r u h => by obtain ⟨rfl, hP⟩ := h; exact kk u hP)

theorem z_callS3v {M' : zM} {d' ix : Nat} {a0 a1 a2 : zV} {P : zS → Prop} (hd : decode M.2.1 pc = .ok (.invokestatic ix, 3)) (hn : pc + 3 = n) (hm : zMs M' 3) (hl : Cond.methodLink M.1.cls ix M'.1 ∈ zT) (hro : zroom M' d' B) (hs : (stk.map zcat).sum ≤ 8) (hM : zSem G M' d' [a0, a1, a2] st (zpv P)) (kk : ∀ (u : zS), P u → zW G M B Q n L stk u) : zW G M B Q pc L (a2 :: a1 :: a0 :: stk) st :=
  z_callS (As := [a0, a1, a2]) hd hn hM hm hl rfl hro hs (fun r u h => by obtain ⟨rfl, hP⟩ := h; exact kk u hP)

theorem z_callN3v {M' : zM} {host : String} {d' ix : Nat} {a0 a1 a2 : zV} {P : zS → Prop} (hd : decode M.2.1 pc = .ok (.invokestatic ix, 3)) (hn : pc + 3 = n) (hm : zMs M' 3) (hl : Cond.methodLinkNest M.1.cls ix M'.1 host ∈ zNW) (hro : zroom M' d' B) (hs : (stk.map zcat).sum ≤ 8) (hM : zSem G M' d' [a0, a1, a2] st (zpv P)) (kk : ∀ (u : zS), P u → zW G M B Q n L stk u) : zW G M B Q pc L (a2 :: a1 :: a0 :: stk) st :=
  z_callN (As := [a0, a1, a2]) hd hn hM hm hl rfl hro hs (fun r u h => by obtain ⟨rfl, hP⟩ := h; exact kk u hP)

theorem z_callS4i {M' : zM} {d' ix : Nat} {a0 a1 a2 a3 : zV} {P : Int → zS → Prop} (hd : decode M.2.1 pc = .ok (.invokestatic ix, 3)) (hn : pc + 3 = n) (hm : zMs M' 4) (hl : Cond.methodLink M.1.cls ix M'.1 ∈ zT) (hro : zroom M' d' B) (hs : (stk.map zcat).sum ≤ 8) (hM : zSem G M' d' [a0, a1, a2, a3] st (zpi P)) (kk : ∀ (x : Int) (u : zS), P x u → zW G M B Q n L (zI x :: stk) u) : zW G M B Q pc L (a3 :: a2 :: a1 :: a0 :: stk) st :=
  z_callS (As := [a0, a1, a2, a3]) hd hn hM hm hl rfl hro hs (fun r u h => by obtain ⟨x, rfl, hP⟩ := h; exact kk x u hP)

theorem z_callN4i {M' : zM} {host : String} {d' ix : Nat} {a0 a1 a2 a3 : zV} {P : Int → zS → Prop} (hd : decode M.2.1 pc = .ok (.invokestatic ix, 3)) (hn : pc + 3 = n) (hm : zMs M' 4) (hl : Cond.methodLinkNest M.1.cls ix M'.1 host ∈ zNW) (hro : zroom M' d' B) (hs : (stk.map zcat).sum ≤ 8) (hM : zSem G M' d' [a0, a1, a2, a3] st (zpi P)) (kk : ∀ (x : Int) (u : zS), P x u → zW G M B Q n L (zI x :: stk) u) : zW G M B Q pc L (a3 :: a2 :: a1 :: a0 :: stk) st :=
  z_callN (As := [a0, a1, a2, a3]) hd hn hM hm hl rfl hro hs (fun r u h => by obtain ⟨x, rfl, hP⟩ := h; exact kk x u hP)

theorem z_callS4l {M' : zM} {d' ix : Nat} {a0 a1 a2 a3 : zV} {P : Int → zS → Prop} (hd : decode M.2.1 pc = .ok (.invokestatic ix, 3)) (hn : pc + 3 = n) (hm : zMs M' 4) (hl : Cond.methodLink M.1.cls ix M'.1 ∈ zT) (hro : zroom M' d' B) (hs : (stk.map zcat).sum ≤ 8) (hM : zSem G M' d' [a0, a1, a2, a3] st (zpl P)) (kk : ∀ (x : Int) (u : zS), P x u → zW G M B Q n L (zL x :: stk) u) : zW G M B Q pc L (a3 :: a2 :: a1 :: a0 :: stk) st :=
  z_callS (As := [a0, a1, a2, a3]) hd hn hM hm hl rfl hro hs (fun r u h => by obtain ⟨x, rfl, hP⟩ := h; exact kk x u hP)

theorem z_callN4l {M' : zM} {host : String} {d' ix : Nat} {a0 a1 a2 a3 : zV} {P : Int → zS → Prop} (hd : decode M.2.1 pc = .ok (.invokestatic ix, 3)) (hn : pc + 3 = n) (hm : zMs M' 4) (hl : Cond.methodLinkNest M.1.cls ix M'.1 host ∈ zNW) (hro : zroom M' d' B) (hs : (stk.map zcat).sum ≤ 8) (hM : zSem G M' d' [a0, a1, a2, a3] st (zpl P)) (kk : ∀ (x : Int) (u : zS), P x u → zW G M B Q n L (zL x :: stk) u) : zW G M B Q pc L (a3 :: a2 :: a1 :: a0 :: stk) st :=
  z_callN (As := [a0, a1, a2, a3]) hd hn hM hm hl rfl hro hs (fun r u h => by obtain ⟨x, rfl, hP⟩ := h; exact kk x u hP)

theorem z_callS4v {M' : zM} {d' ix : Nat} {a0 a1 a2 a3 : zV} {P : zS → Prop} (hd : decode M.2.1 pc = .ok (.invokestatic ix, 3)) (hn : pc + 3 = n) (hm : zMs M' 4) (hl : Cond.methodLink M.1.cls ix M'.1 ∈ zT) (hro : zroom M' d' B) (hs : (stk.map zcat).sum ≤ 8) (hM : zSem G M' d' [a0, a1, a2, a3] st (zpv P)) (kk : ∀ (u : zS), P u → zW G M B Q n L stk u) : zW G M B Q pc L (a3 :: a2 :: a1 :: a0 :: stk) st :=
  z_callS (As := [a0, a1, a2, a3]) hd hn hM hm hl rfl hro hs (fun r u h => by obtain ⟨rfl, hP⟩ := h; exact kk u hP)

theorem z_callN4v {M' : zM} {host : String} {d' ix : Nat} {a0 a1 a2 a3 : zV} {P : zS → Prop} (hd : decode M.2.1 pc = .ok (.invokestatic ix, 3)) (hn : pc + 3 = n) (hm : zMs M' 4) (hl : Cond.methodLinkNest M.1.cls ix M'.1 host ∈ zNW) (hro : zroom M' d' B) (hs : (stk.map zcat).sum ≤ 8) (hM : zSem G M' d' [a0, a1, a2, a3] st (zpv P)) (kk : ∀ (u : zS), P u → zW G M B Q n L stk u) : zW G M B Q pc L (a3 :: a2 :: a1 :: a0 :: stk) st :=
  z_callN (As := [a0, a1, a2, a3]) hd hn hM hm hl rfl hro hs (fun r u h => by obtain ⟨rfl, hP⟩ := h; exact kk u hP)

/-- returns with these forms -/
theorem z_ret_i {d : Nat} {P : Int → zS → Prop} {a : Int} (hd : decode M.2.1 pc = .ok (.ireturn, 1)) (hr : M.2.2.2 = some .int) (h : P a st) : zWP G M d (zpi P) pc L [zI a] st := z_ireturn hd hr ⟨a, rfl, h⟩
theorem z_ret_z {d : Nat} {P : Int → zS → Prop} {a : Int} (hd : decode M.2.1 pc = .ok (.ireturn, 1)) (hr : M.2.2.2 = some .boolean) (ha : a = 0 ∨ a = 1) (h : P a st) : zWP G M d (zpi P) pc L [zI a] st := z_zreturn hd hr ha ⟨a, rfl, h⟩
theorem z_ret_n {d : Nat} {ty : FieldType} {P : Int → zS → Prop} {a : Int} (hd : decode M.2.1 pc = .ok (.ireturn, 1)) (hr : M.2.2.2 = some ty) (ha : narrow ty (.int (Int32.ofInt a)) = .int (Int32.ofInt a)) (h : P a st) : zWP G M d (zpi P) pc L [zI a] st := z_nreturn hd hr ha ⟨a, rfl, h⟩
theorem z_ret_l {d : Nat} {P : Int → zS → Prop} {a : Int} (hd : decode M.2.1 pc = .ok (.lreturn, 1)) (hr : M.2.2.2 = some .long) (h : P a st) : zWP G M d (zpl P) pc L [zL a] st := z_lreturn hd hr ⟨a, rfl, h⟩
theorem z_ret_v {d : Nat} {P : zS → Prop} (hd : decode M.2.1 pc = .ok (.return_, 1)) (hr : M.2.2.2 = none) (h : P st) : zWP G M d (zpv P) pc L [] st := z_return hd hr ⟨rfl, h⟩
/-- weaker ends -/
theorem z_weaki {d : Nat} {av : List zV} {P P' : Int → zS → Prop} (h : zSem G M d av st (zpi P)) (hp : ∀ x u, P x u → P' x u) : zSem G M d av st (zpi P') := by
  intro l p e ha hc hk s m args below hf hap hP hK
  obtain ⟨k, o, h1, h2, h3, ⟨⟨r, u, q1, ⟨x, q2, q3⟩, q4⟩, q5⟩, q6⟩ := h l p e ha hc hk s m args below hf hap hP hK
  exact ⟨k, o, h1, h2, h3, ⟨⟨r, u, q1, ⟨x, q2, hp x u q3⟩, q4⟩, q5⟩, q6⟩
end ZK
end
section
theorem z_in (i : Nat) {w : Cond} (h : lw_tbl[i]? = some w) (hg : goodWord w = true) : w ∈ zT := List.mem_filter.mpr ⟨List.mem_of_getElem? h, hg⟩
theorem z_inN (i : Nat) {a : String} {b : Nat} {x : MethodName} {y : String} (h : lw_tbl[i]? = some (.methodLinkNest a b x y)) : Cond.methodLinkNest a b x y ∈ zNW := List.mem_filter.mpr ⟨List.mem_of_getElem? h, rfl⟩

theorem ini_RX0 : Cond.initialized RX0 ∈ zT := z_in 62 (by decide +kernel) (by decide +kernel)
theorem ini_RX1 : Cond.initialized RX1 ∈ zT := z_in 58 (by decide +kernel) (by decide +kernel)
theorem ini_RX2 : Cond.initialized RX2 ∈ zT := z_in 56 (by decide +kernel) (by decide +kernel)
theorem ini_RX3 : Cond.initialized RX3 ∈ zT := z_in 57 (by decide +kernel) (by decide +kernel)
theorem ini_RX4 : Cond.initialized RX4 ∈ zT := z_in 61 (by decide +kernel) (by decide +kernel)
theorem ini_RX5 : Cond.initialized RX5 ∈ zT := z_in 60 (by decide +kernel) (by decide +kernel)
theorem ini_RX6 : Cond.initialized RX6 ∈ zT := z_in 55 (by decide +kernel) (by decide +kernel)
theorem ini_RX7 : Cond.initialized RX7 ∈ zT := z_in 63 (by decide +kernel) (by decide +kernel)
theorem ini_RJ6 : Cond.initialized RJ6 ∈ zT := z_in 69 (by decide +kernel) (by decide +kernel)
theorem ini_RJ9 : Cond.initialized RJ9 ∈ zT := z_in 59 (by decide +kernel) (by decide +kernel)
theorem ini_RJ0 : Cond.initialized RJ0 ∈ zT := z_in 64 (by decide +kernel) (by decide +kernel)
theorem ini_RJ1 : Cond.initialized RJ1 ∈ zT := z_in 65 (by decide +kernel) (by decide +kernel)
theorem ini_RJ2 : Cond.initialized RJ2 ∈ zT := z_in 67 (by decide +kernel) (by decide +kernel)
theorem ini_RJ10 : Cond.initialized RJ10 ∈ zT := z_in 68 (by decide +kernel) (by decide +kernel)
theorem ini_RJ3 : Cond.initialized RJ3 ∈ zT := z_in 66 (by decide +kernel) (by decide +kernel)
theorem ini_RL : Cond.initialized RL ∈ zT := z_in 54 (by decide +kernel) (by decide +kernel)
abbrev mJ0_charAt_5068e : zM := (yJ0_charAt_5068e, cJ0_charAt_5068e, 2, (some .char))
theorem co_J0_charAt_5068e : zcode mJ0_charAt_5068e ∈ zT := z_in 268 (by decide +kernel) (by decide +kernel)
theorem me_J0_charAt_5068e : zMe mJ0_charAt_5068e 1 := ⟨co_J0_charAt_5068e, ini_RJ0, by decide +kernel, by decide +kernel, by decide +kernel⟩
theorem iv_J0_charAt_5068e : Cond.instanceMethod yJ0_charAt_5068e ∈ zT ∧ Cond.selects RJ0 yJ0_charAt_5068e yJ0_charAt_5068e ∈ zT := ⟨z_in 266 (by decide +kernel) (by decide +kernel), z_in 267 (by decide +kernel) (by decide +kernel)⟩
abbrev mJ0_checkIndex_df160 : zM := (yJ0_checkIndex_df160, cJ0_checkIndex_df160, 2, none)
theorem co_J0_checkIndex_df160 : zcode mJ0_checkIndex_df160 ∈ zT := z_in 278 (by decide +kernel) (by decide +kernel)
theorem me_J0_checkIndex_df160 : zMe mJ0_checkIndex_df160 2 := ⟨co_J0_checkIndex_df160, ini_RJ0, by decide +kernel, by decide +kernel, by decide +kernel⟩
theorem ms_J0_checkIndex_df160 : zMs mJ0_checkIndex_df160 2 := ⟨me_J0_checkIndex_df160, z_in 277 (by decide +kernel) (by decide +kernel)⟩
abbrev mJ0_coder_7d493 : zM := (yJ0_coder_7d493, cJ0_coder_7d493, 1, (some .byte))
theorem co_J0_coder_7d493 : zcode mJ0_coder_7d493 ∈ zT := z_in 262 (by decide +kernel) (by decide +kernel)
theorem me_J0_coder_7d493 : zMe mJ0_coder_7d493 0 := ⟨co_J0_coder_7d493, ini_RJ0, by decide +kernel, by decide +kernel, by decide +kernel⟩
theorem iv_J0_coder_7d493 : Cond.instanceMethod yJ0_coder_7d493 ∈ zT ∧ Cond.selects RJ0 yJ0_coder_7d493 yJ0_coder_7d493 ∈ zT := ⟨z_in 260 (by decide +kernel) (by decide +kernel), z_in 261 (by decide +kernel) (by decide +kernel)⟩
abbrev mJ0_isLatin1_aae02 : zM := (yJ0_isLatin1_aae02, cJ0_isLatin1_aae02, 1, (some .boolean))
theorem co_J0_isLatin1_aae02 : zcode mJ0_isLatin1_aae02 ∈ zT := z_in 272 (by decide +kernel) (by decide +kernel)
theorem me_J0_isLatin1_aae02 : zMe mJ0_isLatin1_aae02 0 := ⟨co_J0_isLatin1_aae02, ini_RJ0, by decide +kernel, by decide +kernel, by decide +kernel⟩
theorem iv_J0_isLatin1_aae02 : Cond.instanceMethod yJ0_isLatin1_aae02 ∈ zT ∧ Cond.selects RJ0 yJ0_isLatin1_aae02 yJ0_isLatin1_aae02 ∈ zT := ⟨z_in 270 (by decide +kernel) (by decide +kernel), z_in 271 (by decide +kernel) (by decide +kernel)⟩
abbrev mJ0_length_8abf5 : zM := (yJ0_length_8abf5, cJ0_length_8abf5, 1, (some .int))
theorem co_J0_length_8abf5 : zcode mJ0_length_8abf5 ∈ zT := z_in 258 (by decide +kernel) (by decide +kernel)
theorem me_J0_length_8abf5 : zMe mJ0_length_8abf5 0 := ⟨co_J0_length_8abf5, ini_RJ0, by decide +kernel, by decide +kernel, by decide +kernel⟩
theorem iv_J0_length_8abf5 : Cond.instanceMethod yJ0_length_8abf5 ∈ zT ∧ Cond.selects RJ0 yJ0_length_8abf5 yJ0_length_8abf5 ∈ zT := ⟨z_in 256 (by decide +kernel) (by decide +kernel), z_in 257 (by decide +kernel) (by decide +kernel)⟩
abbrev mJ1_charAt_3b067 : zM := (yJ1_charAt_3b067, cJ1_charAt_3b067, 2, (some .char))
theorem co_J1_charAt_3b067 : zcode mJ1_charAt_3b067 ∈ zT := z_in 275 (by decide +kernel) (by decide +kernel)
theorem me_J1_charAt_3b067 : zMe mJ1_charAt_3b067 2 := ⟨co_J1_charAt_3b067, ini_RJ1, by decide +kernel, by decide +kernel, by decide +kernel⟩
theorem ms_J1_charAt_3b067 : zMs mJ1_charAt_3b067 2 := ⟨me_J1_charAt_3b067, z_in 274 (by decide +kernel) (by decide +kernel)⟩
abbrev mJ2_charAt_3b067 : zM := (yJ2_charAt_3b067, cJ2_charAt_3b067, 2, (some .char))
theorem co_J2_charAt_3b067 : zcode mJ2_charAt_3b067 ∈ zT := z_in 286 (by decide +kernel) (by decide +kernel)
theorem me_J2_charAt_3b067 : zMe mJ2_charAt_3b067 2 := ⟨co_J2_charAt_3b067, ini_RJ2, by decide +kernel, by decide +kernel, by decide +kernel⟩
theorem ms_J2_charAt_3b067 : zMs mJ2_charAt_3b067 2 := ⟨me_J2_charAt_3b067, z_in 285 (by decide +kernel) (by decide +kernel)⟩
abbrev mJ2_checkIndex_2214a : zM := (yJ2_checkIndex_2214a, cJ2_checkIndex_2214a, 2, none)
theorem co_J2_checkIndex_2214a : zcode mJ2_checkIndex_2214a ∈ zT := z_in 289 (by decide +kernel) (by decide +kernel)
theorem me_J2_checkIndex_2214a : zMe mJ2_checkIndex_2214a 2 := ⟨co_J2_checkIndex_2214a, ini_RJ2, by decide +kernel, by decide +kernel, by decide +kernel⟩
theorem ms_J2_checkIndex_2214a : zMs mJ2_checkIndex_2214a 2 := ⟨me_J2_checkIndex_2214a, z_in 288 (by decide +kernel) (by decide +kernel)⟩
abbrev mJ2_getChar_3b067 : zM := (yJ2_getChar_3b067, cJ2_getChar_3b067, 2, (some .char))
theorem co_J2_getChar_3b067 : zcode mJ2_getChar_3b067 ∈ zT := z_in 296 (by decide +kernel) (by decide +kernel)
theorem me_J2_getChar_3b067 : zMe mJ2_getChar_3b067 2 := ⟨co_J2_getChar_3b067, ini_RJ2, by decide +kernel, by decide +kernel, by decide +kernel⟩
theorem ms_J2_getChar_3b067 : zMs mJ2_getChar_3b067 2 := ⟨me_J2_getChar_3b067, z_in 295 (by decide +kernel) (by decide +kernel)⟩
abbrev mJ2_length_9d52b : zM := (yJ2_length_9d52b, cJ2_length_9d52b, 1, (some .int))
theorem co_J2_length_9d52b : zcode mJ2_length_9d52b ∈ zT := z_in 292 (by decide +kernel) (by decide +kernel)
theorem me_J2_length_9d52b : zMe mJ2_length_9d52b 1 := ⟨co_J2_length_9d52b, ini_RJ2, by decide +kernel, by decide +kernel, by decide +kernel⟩
theorem ms_J2_length_9d52b : zMs mJ2_length_9d52b 1 := ⟨me_J2_length_9d52b, z_in 291 (by decide +kernel) (by decide +kernel)⟩
abbrev mJ3_checkIndex_8e157 : zM := (yJ3_checkIndex_8e157, cJ3_checkIndex_8e157, 3, (some .int))
theorem co_J3_checkIndex_8e157 : zcode mJ3_checkIndex_8e157 ∈ zT := z_in 283 (by decide +kernel) (by decide +kernel)
theorem me_J3_checkIndex_8e157 : zMe mJ3_checkIndex_8e157 3 := ⟨co_J3_checkIndex_8e157, ini_RJ3, by decide +kernel, by decide +kernel, by decide +kernel⟩
theorem ms_J3_checkIndex_8e157 : zMs mJ3_checkIndex_8e157 3 := ⟨me_J3_checkIndex_8e157, z_in 282 (by decide +kernel) (by decide +kernel)⟩
abbrev mJ6_bitCount_0f7a4 : zM := (yJ6_bitCount_0f7a4, cJ6_bitCount_0f7a4, 1, (some .int))
theorem co_J6_bitCount_0f7a4 : zcode mJ6_bitCount_0f7a4 ∈ zT := z_in 472 (by decide +kernel) (by decide +kernel)
theorem me_J6_bitCount_0f7a4 : zMe mJ6_bitCount_0f7a4 1 := ⟨co_J6_bitCount_0f7a4, ini_RJ6, by decide +kernel, by decide +kernel, by decide +kernel⟩
theorem ms_J6_bitCount_0f7a4 : zMs mJ6_bitCount_0f7a4 1 := ⟨me_J6_bitCount_0f7a4, z_in 471 (by decide +kernel) (by decide +kernel)⟩
abbrev mJ9_max_7cf53 : zM := (yJ9_max_7cf53, cJ9_max_7cf53, 2, (some .int))
theorem co_J9_max_7cf53 : zcode mJ9_max_7cf53 ∈ zT := z_in 123 (by decide +kernel) (by decide +kernel)
theorem me_J9_max_7cf53 : zMe mJ9_max_7cf53 2 := ⟨co_J9_max_7cf53, ini_RJ9, by decide +kernel, by decide +kernel, by decide +kernel⟩
theorem ms_J9_max_7cf53 : zMs mJ9_max_7cf53 2 := ⟨me_J9_max_7cf53, z_in 122 (by decide +kernel) (by decide +kernel)⟩
abbrev mJ9_min_7cf53 : zM := (yJ9_min_7cf53, cJ9_min_7cf53, 2, (some .int))
theorem co_J9_min_7cf53 : zcode mJ9_min_7cf53 ∈ zT := z_in 331 (by decide +kernel) (by decide +kernel)
theorem me_J9_min_7cf53 : zMe mJ9_min_7cf53 2 := ⟨co_J9_min_7cf53, ini_RJ9, by decide +kernel, by decide +kernel, by decide +kernel⟩
theorem ms_J9_min_7cf53 : zMs mJ9_min_7cf53 2 := ⟨me_J9_min_7cf53, z_in 330 (by decide +kernel) (by decide +kernel)⟩
abbrev mX0_below : zM := (yX0_below, cX0_below, 2, (some .int))
theorem co_X0_below : zcode mX0_below ∈ zT := z_in 643 (by decide +kernel) (by decide +kernel)
theorem me_X0_below : zMe mX0_below 1 := ⟨co_X0_below, ini_RX0, by decide +kernel, by decide +kernel, by decide +kernel⟩
theorem mv_X0_below : zMv mX0_below 1 0 := ⟨me_X0_below, z_in 641 (by decide +kernel) (by decide +kernel), z_in 642 (by decide +kernel) (by decide +kernel), _, _, rfl⟩
abbrev mX0_init : zM := (yX0_init, cX0_init, 1, none)
theorem co_X0_init : zcode mX0_init ∈ zT := z_in 173 (by decide +kernel) (by decide +kernel)
theorem me_X0_init : zMe mX0_init 0 := ⟨co_X0_init, ini_RX0, by decide +kernel, by decide +kernel, by decide +kernel⟩
abbrev mX0_seedNow : zM := (yX0_seedNow, cX0_seedNow, 1, (some .int))
theorem co_X0_seedNow : zcode mX0_seedNow ∈ zT := z_in 652 (by decide +kernel) (by decide +kernel)
theorem me_X0_seedNow : zMe mX0_seedNow 0 := ⟨co_X0_seedNow, ini_RX0, by decide +kernel, by decide +kernel, by decide +kernel⟩
theorem mv_X0_seedNow : zMv mX0_seedNow 0 0 := ⟨me_X0_seedNow, z_in 650 (by decide +kernel) (by decide +kernel), z_in 651 (by decide +kernel) (by decide +kernel), _, _, rfl⟩
abbrev mX0_startAt : zM := (yX0_startAt, cX0_startAt, 2, none)
theorem co_X0_startAt : zcode mX0_startAt ∈ zT := z_in 635 (by decide +kernel) (by decide +kernel)
theorem me_X0_startAt : zMe mX0_startAt 1 := ⟨co_X0_startAt, ini_RX0, by decide +kernel, by decide +kernel, by decide +kernel⟩
theorem mv_X0_startAt : zMv mX0_startAt 1 0 := ⟨me_X0_startAt, z_in 633 (by decide +kernel) (by decide +kernel), z_in 634 (by decide +kernel) (by decide +kernel), _, _, rfl⟩
abbrev mX1_addAll : zM := (yX1_addAll, cX1_addAll, 3, none)
theorem co_X1_addAll : zcode mX1_addAll ∈ zT := z_in 587 (by decide +kernel) (by decide +kernel)
theorem me_X1_addAll : zMe mX1_addAll 1 := ⟨co_X1_addAll, ini_RX1, by decide +kernel, by decide +kernel, by decide +kernel⟩
theorem mv_X1_addAll : zMv mX1_addAll 1 1 := ⟨me_X1_addAll, z_in 585 (by decide +kernel) (by decide +kernel), z_in 586 (by decide +kernel) (by decide +kernel), _, _, rfl⟩
abbrev mX1_addAsIs : zM := (yX1_addAsIs, cX1_addAsIs, 2, none)
theorem co_X1_addAsIs : zcode mX1_addAsIs ∈ zT := z_in 404 (by decide +kernel) (by decide +kernel)
theorem me_X1_addAsIs : zMe mX1_addAsIs 1 := ⟨co_X1_addAsIs, ini_RX1, by decide +kernel, by decide +kernel, by decide +kernel⟩
theorem mv_X1_addAsIs : zMv mX1_addAsIs 1 1 := ⟨me_X1_addAsIs, z_in 402 (by decide +kernel) (by decide +kernel), z_in 403 (by decide +kernel) (by decide +kernel), _, _, rfl⟩
abbrev mX1_addReduced : zM := (yX1_addReduced, cX1_addReduced, 2, none)
theorem co_X1_addReduced : zcode mX1_addReduced ∈ zT := z_in 393 (by decide +kernel) (by decide +kernel)
theorem me_X1_addReduced : zMe mX1_addReduced 1 := ⟨co_X1_addReduced, ini_RX1, by decide +kernel, by decide +kernel, by decide +kernel⟩
theorem mv_X1_addReduced : zMv mX1_addReduced 1 1 := ⟨me_X1_addReduced, z_in 391 (by decide +kernel) (by decide +kernel), z_in 392 (by decide +kernel) (by decide +kernel), _, _, rfl⟩
abbrev mX1_addUndone : zM := (yX1_addUndone, cX1_addUndone, 3, none)
theorem co_X1_addUndone : zcode mX1_addUndone ∈ zT := z_in 578 (by decide +kernel) (by decide +kernel)
theorem me_X1_addUndone : zMe mX1_addUndone 1 := ⟨co_X1_addUndone, ini_RX1, by decide +kernel, by decide +kernel, by decide +kernel⟩
theorem mv_X1_addUndone : zMv mX1_addUndone 1 1 := ⟨me_X1_addUndone, z_in 576 (by decide +kernel) (by decide +kernel), z_in 577 (by decide +kernel) (by decide +kernel), _, _, rfl⟩
abbrev mX1_at : zM := (yX1_at, cX1_at, 2, (some .int))
theorem co_X1_at : zcode mX1_at ∈ zT := z_in 397 (by decide +kernel) (by decide +kernel)
theorem me_X1_at : zMe mX1_at 1 := ⟨co_X1_at, ini_RX1, by decide +kernel, by decide +kernel, by decide +kernel⟩
theorem mv_X1_at : zMv mX1_at 1 1 := ⟨me_X1_at, z_in 395 (by decide +kernel) (by decide +kernel), z_in 396 (by decide +kernel) (by decide +kernel), _, _, rfl⟩
abbrev mX1_clear : zM := (yX1_clear, cX1_clear, 1, none)
theorem co_X1_clear : zcode mX1_clear ∈ zT := z_in 355 (by decide +kernel) (by decide +kernel)
theorem me_X1_clear : zMe mX1_clear 0 := ⟨co_X1_clear, ini_RX1, by decide +kernel, by decide +kernel, by decide +kernel⟩
theorem mv_X1_clear : zMv mX1_clear 0 1 := ⟨me_X1_clear, z_in 353 (by decide +kernel) (by decide +kernel), z_in 354 (by decide +kernel) (by decide +kernel), _, _, rfl⟩
abbrev mX1_copyFrom : zM := (yX1_copyFrom, cX1_copyFrom, 3, none)
theorem co_X1_copyFrom : zcode mX1_copyFrom ∈ zT := z_in 574 (by decide +kernel) (by decide +kernel)
theorem me_X1_copyFrom : zMe mX1_copyFrom 1 := ⟨co_X1_copyFrom, ini_RX1, by decide +kernel, by decide +kernel, by decide +kernel⟩
theorem mv_X1_copyFrom : zMv mX1_copyFrom 1 1 := ⟨me_X1_copyFrom, z_in 572 (by decide +kernel) (by decide +kernel), z_in 573 (by decide +kernel) (by decide +kernel), _, _, rfl⟩
abbrev mX1_init : zM := (yX1_init, cX1_init, 2, none)
theorem co_X1_init : zcode mX1_init ∈ zT := z_in 119 (by decide +kernel) (by decide +kernel)
theorem me_X1_init : zMe mX1_init 1 := ⟨co_X1_init, ini_RX1, by decide +kernel, by decide +kernel, by decide +kernel⟩
abbrev mX1_size : zM := (yX1_size, cX1_size, 1, (some .int))
theorem co_X1_size : zcode mX1_size ∈ zT := z_in 408 (by decide +kernel) (by decide +kernel)
theorem me_X1_size : zMe mX1_size 0 := ⟨co_X1_size, ini_RX1, by decide +kernel, by decide +kernel, by decide +kernel⟩
theorem mv_X1_size : zMv mX1_size 0 1 := ⟨me_X1_size, z_in 406 (by decide +kernel) (by decide +kernel), z_in 407 (by decide +kernel) (by decide +kernel), _, _, rfl⟩
abbrev mX2_clear : zM := (yX2_clear, cX2_clear, 1, none)
theorem co_X2_clear : zcode mX2_clear ∈ zT := z_in 235 (by decide +kernel) (by decide +kernel)
theorem me_X2_clear : zMe mX2_clear 0 := ⟨co_X2_clear, ini_RX2, by decide +kernel, by decide +kernel, by decide +kernel⟩
theorem mv_X2_clear : zMv mX2_clear 0 2 := ⟨me_X2_clear, z_in 233 (by decide +kernel) (by decide +kernel), z_in 234 (by decide +kernel) (by decide +kernel), _, _, rfl⟩
abbrev mX2_codeAt : zM := (yX2_codeAt, cX2_codeAt, 2, (some .int))
theorem co_X2_codeAt : zcode mX2_codeAt ∈ zT := z_in 247 (by decide +kernel) (by decide +kernel)
theorem me_X2_codeAt : zMe mX2_codeAt 1 := ⟨co_X2_codeAt, ini_RX2, by decide +kernel, by decide +kernel, by decide +kernel⟩
theorem mv_X2_codeAt : zMv mX2_codeAt 1 2 := ⟨me_X2_codeAt, z_in 245 (by decide +kernel) (by decide +kernel), z_in 246 (by decide +kernel) (by decide +kernel), _, _, rfl⟩
abbrev mX2_firstFault : zM := (yX2_firstFault, cX2_firstFault, 2, (some .int))
theorem co_X2_firstFault : zcode mX2_firstFault ∈ zT := z_in 243 (by decide +kernel) (by decide +kernel)
theorem me_X2_firstFault : zMe mX2_firstFault 0 := ⟨co_X2_firstFault, ini_RX2, by decide +kernel, by decide +kernel, by decide +kernel⟩
theorem mv_X2_firstFault : zMv mX2_firstFault 0 2 := ⟨me_X2_firstFault, z_in 241 (by decide +kernel) (by decide +kernel), z_in 242 (by decide +kernel) (by decide +kernel), _, _, rfl⟩
abbrev mX2_fits : zM := (yX2_fits, cX2_fits, 2, (some .boolean))
theorem co_X2_fits : zcode mX2_fits ∈ zT := z_in 250 (by decide +kernel) (by decide +kernel)
theorem me_X2_fits : zMe mX2_fits 2 := ⟨co_X2_fits, ini_RX2, by decide +kernel, by decide +kernel, by decide +kernel⟩
theorem ms_X2_fits : zMs mX2_fits 2 := ⟨me_X2_fits, z_in 249 (by decide +kernel) (by decide +kernel)⟩
abbrev mX2_init : zM := (yX2_init, cX2_init, 1, none)
theorem co_X2_init : zcode mX2_init ∈ zT := z_in 82 (by decide +kernel) (by decide +kernel)
theorem me_X2_init : zMe mX2_init 0 := ⟨co_X2_init, ini_RX2, by decide +kernel, by decide +kernel, by decide +kernel⟩
abbrev mX2_isDigit : zM := (yX2_isDigit, cX2_isDigit, 1, (some .boolean))
theorem co_X2_isDigit : zcode mX2_isDigit ∈ zT := z_in 305 (by decide +kernel) (by decide +kernel)
theorem me_X2_isDigit : zMe mX2_isDigit 1 := ⟨co_X2_isDigit, ini_RX2, by decide +kernel, by decide +kernel, by decide +kernel⟩
theorem ms_X2_isDigit : zMs mX2_isDigit 1 := ⟨me_X2_isDigit, z_in 304 (by decide +kernel) (by decide +kernel)⟩
abbrev mX2_isMachine : zM := (yX2_isMachine, cX2_isMachine, 3, (some .boolean))
theorem co_X2_isMachine : zcode mX2_isMachine ∈ zT := z_in 314 (by decide +kernel) (by decide +kernel)
theorem me_X2_isMachine : zMe mX2_isMachine 0 := ⟨co_X2_isMachine, ini_RX2, by decide +kernel, by decide +kernel, by decide +kernel⟩
theorem mv_X2_isMachine : zMv mX2_isMachine 0 2 := ⟨me_X2_isMachine, z_in 312 (by decide +kernel) (by decide +kernel), z_in 313 (by decide +kernel) (by decide +kernel), _, _, rfl⟩
abbrev mX2_kindOfCode : zM := (yX2_kindOfCode, cX2_kindOfCode, 2, (some .int))
theorem co_X2_kindOfCode : zcode mX2_kindOfCode ∈ zT := z_in 253 (by decide +kernel) (by decide +kernel)
theorem me_X2_kindOfCode : zMe mX2_kindOfCode 1 := ⟨co_X2_kindOfCode, ini_RX2, by decide +kernel, by decide +kernel, by decide +kernel⟩
theorem ms_X2_kindOfCode : zMs mX2_kindOfCode 1 := ⟨me_X2_kindOfCode, z_in 252 (by decide +kernel) (by decide +kernel)⟩
abbrev mX2_kindTold : zM := (yX2_kindTold, cX2_kindTold, 2, (some .int))
theorem co_X2_kindTold : zcode mX2_kindTold ∈ zT := z_in 335 (by decide +kernel) (by decide +kernel)
theorem me_X2_kindTold : zMe mX2_kindTold 1 := ⟨co_X2_kindTold, ini_RX2, by decide +kernel, by decide +kernel, by decide +kernel⟩
theorem mv_X2_kindTold : zMv mX2_kindTold 1 2 := ⟨me_X2_kindTold, z_in 333 (by decide +kernel) (by decide +kernel), z_in 334 (by decide +kernel) (by decide +kernel), _, _, rfl⟩
abbrev mX2_nextTold : zM := (yX2_nextTold, cX2_nextTold, 4, (some .int))
theorem co_X2_nextTold : zcode mX2_nextTold ∈ zT := z_in 323 (by decide +kernel) (by decide +kernel)
theorem me_X2_nextTold : zMe mX2_nextTold 2 := ⟨co_X2_nextTold, ini_RX2, by decide +kernel, by decide +kernel, by decide +kernel⟩
theorem mv_X2_nextTold : zMv mX2_nextTold 2 2 := ⟨me_X2_nextTold, z_in 321 (by decide +kernel) (by decide +kernel), z_in 322 (by decide +kernel) (by decide +kernel), _, _, rfl⟩
abbrev mX2_put : zM := (yX2_put, cX2_put, 2, (some .boolean))
theorem co_X2_put : zcode mX2_put ∈ zT := z_in 223 (by decide +kernel) (by decide +kernel)
theorem me_X2_put : zMe mX2_put 1 := ⟨co_X2_put, ini_RX2, by decide +kernel, by decide +kernel, by decide +kernel⟩
theorem mv_X2_put : zMv mX2_put 1 2 := ⟨me_X2_put, z_in 221 (by decide +kernel) (by decide +kernel), z_in 222 (by decide +kernel) (by decide +kernel), _, _, rfl⟩
abbrev mX2_size : zM := (yX2_size, cX2_size, 1, (some .int))
theorem co_X2_size : zcode mX2_size ∈ zT := z_in 227 (by decide +kernel) (by decide +kernel)
theorem me_X2_size : zMe mX2_size 0 := ⟨co_X2_size, ini_RX2, by decide +kernel, by decide +kernel, by decide +kernel⟩
theorem mv_X2_size : zMv mX2_size 0 2 := ⟨me_X2_size, z_in 225 (by decide +kernel) (by decide +kernel), z_in 226 (by decide +kernel) (by decide +kernel), _, _, rfl⟩
abbrev mX2_statesTold : zM := (yX2_statesTold, cX2_statesTold, 1, (some .int))
theorem co_X2_statesTold : zcode mX2_statesTold ∈ zT := z_in 319 (by decide +kernel) (by decide +kernel)
theorem me_X2_statesTold : zMe mX2_statesTold 0 := ⟨co_X2_statesTold, ini_RX2, by decide +kernel, by decide +kernel, by decide +kernel⟩
theorem mv_X2_statesTold : zMv mX2_statesTold 0 2 := ⟨me_X2_statesTold, z_in 317 (by decide +kernel) (by decide +kernel), z_in 318 (by decide +kernel) (by decide +kernel), _, _, rfl⟩
abbrev mX3_classes : zM := (yX3_classes, cX3_classes, 3, (some .int))
theorem co_X3_classes : zcode mX3_classes ∈ zT := z_in 677 (by decide +kernel) (by decide +kernel)
theorem me_X3_classes : zMe mX3_classes 0 := ⟨co_X3_classes, ini_RX3, by decide +kernel, by decide +kernel, by decide +kernel⟩
theorem mv_X3_classes : zMv mX3_classes 0 3 := ⟨me_X3_classes, z_in 675 (by decide +kernel) (by decide +kernel), z_in 676 (by decide +kernel) (by decide +kernel), _, _, rfl⟩
abbrev mX3_copyFrom : zM := (yX3_copyFrom, cX3_copyFrom, 2, none)
theorem co_X3_copyFrom : zcode mX3_copyFrom ∈ zT := z_in 660 (by decide +kernel) (by decide +kernel)
theorem me_X3_copyFrom : zMe mX3_copyFrom 1 := ⟨co_X3_copyFrom, ini_RX3, by decide +kernel, by decide +kernel, by decide +kernel⟩
theorem mv_X3_copyFrom : zMv mX3_copyFrom 1 3 := ⟨me_X3_copyFrom, z_in 658 (by decide +kernel) (by decide +kernel), z_in 659 (by decide +kernel) (by decide +kernel), _, _, rfl⟩
abbrev mX3_findAlike : zM := (yX3_findAlike, cX3_findAlike, 3, none)
theorem co_X3_findAlike : zcode mX3_findAlike ∈ zT := z_in 445 (by decide +kernel) (by decide +kernel)
theorem me_X3_findAlike : zMe mX3_findAlike 0 := ⟨co_X3_findAlike, ini_RX3, by decide +kernel, by decide +kernel, by decide +kernel⟩
theorem mv_X3_findAlike : zMv mX3_findAlike 0 3 := ⟨me_X3_findAlike, z_in 444 (by decide +kernel) (by decide +kernel), z_in 4 (by decide +kernel) (by decide +kernel), _, _, rfl⟩
abbrev mX3_flipsFirst : zM := (yX3_flipsFirst, cX3_flipsFirst, 3, (some .boolean))
theorem co_X3_flipsFirst : zcode mX3_flipsFirst ∈ zT := z_in 453 (by decide +kernel) (by decide +kernel)
theorem me_X3_flipsFirst : zMe mX3_flipsFirst 1 := ⟨co_X3_flipsFirst, ini_RX3, by decide +kernel, by decide +kernel, by decide +kernel⟩
theorem mv_X3_flipsFirst : zMv mX3_flipsFirst 1 3 := ⟨me_X3_flipsFirst, z_in 452 (by decide +kernel) (by decide +kernel), z_in 6 (by decide +kernel) (by decide +kernel), _, _, rfl⟩
abbrev mX3_flipsFirstSign : zM := (yX3_flipsFirstSign, cX3_flipsFirstSign, 4, (some .boolean))
theorem co_X3_flipsFirstSign : zcode mX3_flipsFirstSign ∈ zT := z_in 560 (by decide +kernel) (by decide +kernel)
theorem me_X3_flipsFirstSign : zMe mX3_flipsFirstSign 1 := ⟨co_X3_flipsFirstSign, ini_RX3, by decide +kernel, by decide +kernel, by decide +kernel⟩
theorem mv_X3_flipsFirstSign : zMv mX3_flipsFirstSign 1 3 := ⟨me_X3_flipsFirstSign, z_in 558 (by decide +kernel) (by decide +kernel), z_in 559 (by decide +kernel) (by decide +kernel), _, _, rfl⟩
abbrev mX3_goesOn : zM := (yX3_goesOn, cX3_goesOn, 4, (some .int))
theorem co_X3_goesOn : zcode mX3_goesOn ∈ zT := z_in 432 (by decide +kernel) (by decide +kernel)
theorem me_X3_goesOn : zMe mX3_goesOn 2 := ⟨co_X3_goesOn, ini_RX3, by decide +kernel, by decide +kernel, by decide +kernel⟩
theorem mv_X3_goesOn : zMv mX3_goesOn 2 3 := ⟨me_X3_goesOn, z_in 431 (by decide +kernel) (by decide +kernel), z_in 3 (by decide +kernel) (by decide +kernel), _, _, rfl⟩
abbrev mX3_has : zM := (yX3_has, cX3_has, 2, (some .boolean))
theorem co_X3_has : zcode mX3_has ∈ zT := z_in 343 (by decide +kernel) (by decide +kernel)
theorem me_X3_has : zMe mX3_has 1 := ⟨co_X3_has, ini_RX3, by decide +kernel, by decide +kernel, by decide +kernel⟩
theorem mv_X3_has : zMv mX3_has 1 3 := ⟨me_X3_has, z_in 341 (by decide +kernel) (by decide +kernel), z_in 342 (by decide +kernel) (by decide +kernel), _, _, rfl⟩
abbrev mX3_inCore : zM := (yX3_inCore, cX3_inCore, 3, (some .int))
theorem co_X3_inCore : zcode mX3_inCore ∈ zT := z_in 681 (by decide +kernel) (by decide +kernel)
theorem me_X3_inCore : zMe mX3_inCore 0 := ⟨co_X3_inCore, ini_RX3, by decide +kernel, by decide +kernel, by decide +kernel⟩
theorem mv_X3_inCore : zMv mX3_inCore 0 3 := ⟨me_X3_inCore, z_in 679 (by decide +kernel) (by decide +kernel), z_in 680 (by decide +kernel) (by decide +kernel), _, _, rfl⟩
abbrev mX3_init : zM := (yX3_init, cX3_init, 1, none)
theorem co_X3_init : zcode mX3_init ∈ zT := z_in 96 (by decide +kernel) (by decide +kernel)
theorem me_X3_init : zMe mX3_init 0 := ⟨co_X3_init, ini_RX3, by decide +kernel, by decide +kernel, by decide +kernel⟩
abbrev mX3_isInCore : zM := (yX3_isInCore, cX3_isInCore, 2, (some .boolean))
theorem co_X3_isInCore : zcode mX3_isInCore ∈ zT := z_in 436 (by decide +kernel) (by decide +kernel)
theorem me_X3_isInCore : zMe mX3_isInCore 1 := ⟨co_X3_isInCore, ini_RX3, by decide +kernel, by decide +kernel, by decide +kernel⟩
theorem mv_X3_isInCore : zMv mX3_isInCore 1 3 := ⟨me_X3_isInCore, z_in 434 (by decide +kernel) (by decide +kernel), z_in 435 (by decide +kernel) (by decide +kernel), _, _, rfl⟩
abbrev mX3_kindOf : zM := (yX3_kindOf, cX3_kindOf, 2, (some .int))
theorem co_X3_kindOf : zcode mX3_kindOf ∈ zT := z_in 416 (by decide +kernel) (by decide +kernel)
theorem me_X3_kindOf : zMe mX3_kindOf 1 := ⟨co_X3_kindOf, ini_RX3, by decide +kernel, by decide +kernel, by decide +kernel⟩
theorem mv_X3_kindOf : zMv mX3_kindOf 1 3 := ⟨me_X3_kindOf, z_in 414 (by decide +kernel) (by decide +kernel), z_in 415 (by decide +kernel) (by decide +kernel), _, _, rfl⟩
abbrev mX3_leastAlike : zM := (yX3_leastAlike, cX3_leastAlike, 2, (some .int))
theorem co_X3_leastAlike : zcode mX3_leastAlike ∈ zT := z_in 441 (by decide +kernel) (by decide +kernel)
theorem me_X3_leastAlike : zMe mX3_leastAlike 1 := ⟨co_X3_leastAlike, ini_RX3, by decide +kernel, by decide +kernel, by decide +kernel⟩
theorem mv_X3_leastAlike : zMv mX3_leastAlike 1 3 := ⟨me_X3_leastAlike, z_in 439 (by decide +kernel) (by decide +kernel), z_in 440 (by decide +kernel) (by decide +kernel), _, _, rfl⟩
abbrev mX3_leastBehind : zM := (yX3_leastBehind, cX3_leastBehind, 4, (some .int))
theorem co_X3_leastBehind : zcode mX3_leastBehind ∈ zT := z_in 457 (by decide +kernel) (by decide +kernel)
theorem me_X3_leastBehind : zMe mX3_leastBehind 2 := ⟨co_X3_leastBehind, ini_RX3, by decide +kernel, by decide +kernel, by decide +kernel⟩
theorem mv_X3_leastBehind : zMv mX3_leastBehind 2 3 := ⟨me_X3_leastBehind, z_in 456 (by decide +kernel) (by decide +kernel), z_in 7 (by decide +kernel) (by decide +kernel), _, _, rfl⟩
abbrev mX3_leastThatSeemsAlike : zM := (yX3_leastThatSeemsAlike, cX3_leastThatSeemsAlike, 3, (some .int))
theorem co_X3_leastThatSeemsAlike : zcode mX3_leastThatSeemsAlike ∈ zT := z_in 449 (by decide +kernel) (by decide +kernel)
theorem me_X3_leastThatSeemsAlike : zMe mX3_leastThatSeemsAlike 1 := ⟨co_X3_leastThatSeemsAlike, ini_RX3, by decide +kernel, by decide +kernel, by decide +kernel⟩
theorem mv_X3_leastThatSeemsAlike : zMv mX3_leastThatSeemsAlike 1 3 := ⟨me_X3_leastThatSeemsAlike, z_in 448 (by decide +kernel) (by decide +kernel), z_in 5 (by decide +kernel) (by decide +kernel), _, _, rfl⟩
abbrev mX3_letterBehind : zM := (yX3_letterBehind, cX3_letterBehind, 7, (some .int))
theorem co_X3_letterBehind : zcode mX3_letterBehind ∈ zT := z_in 516 (by decide +kernel) (by decide +kernel)
theorem me_X3_letterBehind : zMe mX3_letterBehind 2 := ⟨co_X3_letterBehind, ini_RX3, by decide +kernel, by decide +kernel, by decide +kernel⟩
theorem mv_X3_letterBehind : zMv mX3_letterBehind 2 3 := ⟨me_X3_letterBehind, z_in 515 (by decide +kernel) (by decide +kernel), z_in 9 (by decide +kernel) (by decide +kernel), _, _, rfl⟩
abbrev mX3_nextsOf : zM := (yX3_nextsOf, cX3_nextsOf, 5, (some .int))
theorem co_X3_nextsOf : zcode mX3_nextsOf ∈ zT := z_in 428 (by decide +kernel) (by decide +kernel)
theorem me_X3_nextsOf : zMe mX3_nextsOf 1 := ⟨co_X3_nextsOf, ini_RX3, by decide +kernel, by decide +kernel, by decide +kernel⟩
theorem mv_X3_nextsOf : zMv mX3_nextsOf 1 3 := ⟨me_X3_nextsOf, z_in 427 (by decide +kernel) (by decide +kernel), z_in 2 (by decide +kernel) (by decide +kernel), _, _, rfl⟩
abbrev mX3_putSection : zM := (yX3_putSection, cX3_putSection, 8, none)
theorem co_X3_putSection : zcode mX3_putSection ∈ zT := z_in 564 (by decide +kernel) (by decide +kernel)
theorem me_X3_putSection : zMe mX3_putSection 3 := ⟨co_X3_putSection, ini_RX3, by decide +kernel, by decide +kernel, by decide +kernel⟩
theorem mv_X3_putSection : zMv mX3_putSection 3 3 := ⟨me_X3_putSection, z_in 562 (by decide +kernel) (by decide +kernel), z_in 563 (by decide +kernel) (by decide +kernel), _, _, rfl⟩
abbrev mX3_reachOf : zM := (yX3_reachOf, cX3_reachOf, 5, (some .int))
theorem co_X3_reachOf : zcode mX3_reachOf ∈ zT := z_in 424 (by decide +kernel) (by decide +kernel)
theorem me_X3_reachOf : zMe mX3_reachOf 1 := ⟨co_X3_reachOf, ini_RX3, by decide +kernel, by decide +kernel, by decide +kernel⟩
theorem mv_X3_reachOf : zMv mX3_reachOf 1 3 := ⟨me_X3_reachOf, z_in 422 (by decide +kernel) (by decide +kernel), z_in 423 (by decide +kernel) (by decide +kernel), _, _, rfl⟩
abbrev mX3_readFrom : zM := (yX3_readFrom, cX3_readFrom, 3, none)
theorem co_X3_readFrom : zcode mX3_readFrom ∈ zT := z_in 327 (by decide +kernel) (by decide +kernel)
theorem me_X3_readFrom : zMe mX3_readFrom 1 := ⟨co_X3_readFrom, ini_RX3, by decide +kernel, by decide +kernel, by decide +kernel⟩
theorem mv_X3_readFrom : zMv mX3_readFrom 1 3 := ⟨me_X3_readFrom, z_in 325 (by decide +kernel) (by decide +kernel), z_in 326 (by decide +kernel) (by decide +kernel), _, _, rfl⟩
abbrev mX3_rowAfterLetter : zM := (yX3_rowAfterLetter, cX3_rowAfterLetter, 8, (some .int))
theorem co_X3_rowAfterLetter : zcode mX3_rowAfterLetter ∈ zT := z_in 511 (by decide +kernel) (by decide +kernel)
theorem me_X3_rowAfterLetter : zMe mX3_rowAfterLetter 3 := ⟨co_X3_rowAfterLetter, ini_RX3, by decide +kernel, by decide +kernel, by decide +kernel⟩
theorem mv_X3_rowAfterLetter : zMv mX3_rowAfterLetter 3 3 := ⟨me_X3_rowAfterLetter, z_in 510 (by decide +kernel) (by decide +kernel), z_in 8 (by decide +kernel) (by decide +kernel), _, _, rfl⟩
abbrev mX3_rowAfterWord : zM := (yX3_rowAfterWord, cX3_rowAfterWord, 6, (some .int))
theorem co_X3_rowAfterWord : zcode mX3_rowAfterWord ∈ zT := z_in 505 (by decide +kernel) (by decide +kernel)
theorem me_X3_rowAfterWord : zMe mX3_rowAfterWord 3 := ⟨co_X3_rowAfterWord, ini_RX3, by decide +kernel, by decide +kernel, by decide +kernel⟩
theorem mv_X3_rowAfterWord : zMv mX3_rowAfterWord 3 3 := ⟨me_X3_rowAfterWord, z_in 503 (by decide +kernel) (by decide +kernel), z_in 504 (by decide +kernel) (by decide +kernel), _, _, rfl⟩
abbrev mX3_setKind : zM := (yX3_setKind, cX3_setKind, 3, none)
theorem co_X3_setKind : zcode mX3_setKind ∈ zT := z_in 339 (by decide +kernel) (by decide +kernel)
theorem me_X3_setKind : zMe mX3_setKind 2 := ⟨co_X3_setKind, ini_RX3, by decide +kernel, by decide +kernel, by decide +kernel⟩
theorem mv_X3_setKind : zMv mX3_setKind 2 3 := ⟨me_X3_setKind, z_in 337 (by decide +kernel) (by decide +kernel), z_in 338 (by decide +kernel) (by decide +kernel), _, _, rfl⟩
abbrev mX3_setNext : zM := (yX3_setNext, cX3_setNext, 4, none)
theorem co_X3_setNext : zcode mX3_setNext ∈ zT := z_in 348 (by decide +kernel) (by decide +kernel)
theorem me_X3_setNext : zMe mX3_setNext 3 := ⟨co_X3_setNext, ini_RX3, by decide +kernel, by decide +kernel, by decide +kernel⟩
theorem mv_X3_setNext : zMv mX3_setNext 3 3 := ⟨me_X3_setNext, z_in 346 (by decide +kernel) (by decide +kernel), z_in 347 (by decide +kernel) (by decide +kernel), _, _, rfl⟩
abbrev mX3_size : zM := (yX3_size, cX3_size, 1, (some .int))
theorem co_X3_size : zcode mX3_size ∈ zT := z_in 363 (by decide +kernel) (by decide +kernel)
theorem me_X3_size : zMe mX3_size 0 := ⟨co_X3_size, ini_RX3, by decide +kernel, by decide +kernel, by decide +kernel⟩
theorem mv_X3_size : zMv mX3_size 0 3 := ⟨me_X3_size, z_in 361 (by decide +kernel) (by decide +kernel), z_in 362 (by decide +kernel) (by decide +kernel), _, _, rfl⟩
abbrev mX3_toldNext : zM := (yX3_toldNext, cX3_toldNext, 3, (some .int))
theorem co_X3_toldNext : zcode mX3_toldNext ∈ zT := z_in 420 (by decide +kernel) (by decide +kernel)
theorem me_X3_toldNext : zMe mX3_toldNext 2 := ⟨co_X3_toldNext, ini_RX3, by decide +kernel, by decide +kernel, by decide +kernel⟩
theorem mv_X3_toldNext : zMv mX3_toldNext 2 3 := ⟨me_X3_toldNext, z_in 418 (by decide +kernel) (by decide +kernel), z_in 419 (by decide +kernel) (by decide +kernel), _, _, rfl⟩
abbrev mX4_find : zM := (yX4_find, cX4_find, 3, none)
theorem co_X4_find : zcode mX4_find ∈ zT := z_in 538 (by decide +kernel) (by decide +kernel)
theorem me_X4_find : zMe mX4_find 1 := ⟨co_X4_find, ini_RX4, by decide +kernel, by decide +kernel, by decide +kernel⟩
theorem mv_X4_find : zMv mX4_find 1 4 := ⟨me_X4_find, z_in 537 (by decide +kernel) (by decide +kernel), z_in 10 (by decide +kernel) (by decide +kernel), _, _, rfl⟩
abbrev mX4_init : zM := (yX4_init, cX4_init, 1, none)
theorem co_X4_init : zcode mX4_init ∈ zT := z_in 148 (by decide +kernel) (by decide +kernel)
theorem me_X4_init : zMe mX4_init 0 := ⟨co_X4_init, ini_RX4, by decide +kernel, by decide +kernel, by decide +kernel⟩
abbrev mX4_isPackedAt : zM := (yX4_isPackedAt, cX4_isPackedAt, 3, (some .boolean))
theorem co_X4_isPackedAt : zcode mX4_isPackedAt ∈ zT := z_in 548 (by decide +kernel) (by decide +kernel)
theorem me_X4_isPackedAt : zMe mX4_isPackedAt 1 := ⟨co_X4_isPackedAt, ini_RX4, by decide +kernel, by decide +kernel, by decide +kernel⟩
theorem mv_X4_isPackedAt : zMv mX4_isPackedAt 1 4 := ⟨me_X4_isPackedAt, z_in 547 (by decide +kernel) (by decide +kernel), z_in 12 (by decide +kernel) (by decide +kernel), _, _, rfl⟩
abbrev mX4_pack : zM := (yX4_pack, cX4_pack, 5, none)
theorem co_X4_pack : zcode mX4_pack ∈ zT := z_in 542 (by decide +kernel) (by decide +kernel)
theorem me_X4_pack : zMe mX4_pack 1 := ⟨co_X4_pack, ini_RX4, by decide +kernel, by decide +kernel, by decide +kernel⟩
theorem mv_X4_pack : zMv mX4_pack 1 4 := ⟨me_X4_pack, z_in 541 (by decide +kernel) (by decide +kernel), z_in 11 (by decide +kernel) (by decide +kernel), _, _, rfl⟩
abbrev mX4_tellNothing : zM := (yX4_tellNothing, cX4_tellNothing, 5, (some .int))
theorem co_X4_tellNothing : zcode mX4_tellNothing ∈ zT := z_in 534 (by decide +kernel) (by decide +kernel)
theorem me_X4_tellNothing : zMe mX4_tellNothing 2 := ⟨co_X4_tellNothing, ini_RX4, by decide +kernel, by decide +kernel, by decide +kernel⟩
theorem mv_X4_tellNothing : zMv mX4_tellNothing 2 4 := ⟨me_X4_tellNothing, z_in 532 (by decide +kernel) (by decide +kernel), z_in 533 (by decide +kernel) (by decide +kernel), _, _, rfl⟩
abbrev mX4_unpack : zM := (yX4_unpack, cX4_unpack, 6, none)
theorem co_X4_unpack : zcode mX4_unpack ∈ zT := z_in 553 (by decide +kernel) (by decide +kernel)
theorem me_X4_unpack : zMe mX4_unpack 1 := ⟨co_X4_unpack, ini_RX4, by decide +kernel, by decide +kernel, by decide +kernel⟩
theorem mv_X4_unpack : zMv mX4_unpack 1 4 := ⟨me_X4_unpack, z_in 552 (by decide +kernel) (by decide +kernel), z_in 13 (by decide +kernel) (by decide +kernel), _, _, rfl⟩
abbrev mX5_add : zM := (yX5_add, cX5_add, 3, none)
theorem co_X5_add : zcode mX5_add ∈ zT := z_in 623 (by decide +kernel) (by decide +kernel)
theorem me_X5_add : zMe mX5_add 2 := ⟨co_X5_add, ini_RX5, by decide +kernel, by decide +kernel, by decide +kernel⟩
theorem mv_X5_add : zMv mX5_add 2 5 := ⟨me_X5_add, z_in 621 (by decide +kernel) (by decide +kernel), z_in 622 (by decide +kernel) (by decide +kernel), _, _, rfl⟩
abbrev mX5_clear : zM := (yX5_clear, cX5_clear, 2, none)
theorem co_X5_clear : zcode mX5_clear ∈ zT := z_in 359 (by decide +kernel) (by decide +kernel)
theorem me_X5_clear : zMe mX5_clear 0 := ⟨co_X5_clear, ini_RX5, by decide +kernel, by decide +kernel, by decide +kernel⟩
theorem mv_X5_clear : zMv mX5_clear 0 5 := ⟨me_X5_clear, z_in 357 (by decide +kernel) (by decide +kernel), z_in 358 (by decide +kernel) (by decide +kernel), _, _, rfl⟩
abbrev mX5_copyFrom : zM := (yX5_copyFrom, cX5_copyFrom, 2, none)
theorem co_X5_copyFrom : zcode mX5_copyFrom ∈ zT := z_in 664 (by decide +kernel) (by decide +kernel)
theorem me_X5_copyFrom : zMe mX5_copyFrom 1 := ⟨co_X5_copyFrom, ini_RX5, by decide +kernel, by decide +kernel, by decide +kernel⟩
theorem mv_X5_copyFrom : zMv mX5_copyFrom 1 5 := ⟨me_X5_copyFrom, z_in 662 (by decide +kernel) (by decide +kernel), z_in 663 (by decide +kernel) (by decide +kernel), _, _, rfl⟩
abbrev mX5_init : zM := (yX5_init, cX5_init, 2, none)
theorem co_X5_init : zcode mX5_init ∈ zT := z_in 135 (by decide +kernel) (by decide +kernel)
theorem me_X5_init : zMe mX5_init 0 := ⟨co_X5_init, ini_RX5, by decide +kernel, by decide +kernel, by decide +kernel⟩
abbrev mX5_size : zM := (yX5_size, cX5_size, 1, (some .int))
theorem co_X5_size : zcode mX5_size ∈ zT := z_in 619 (by decide +kernel) (by decide +kernel)
theorem me_X5_size : zMe mX5_size 0 := ⟨co_X5_size, ini_RX5, by decide +kernel, by decide +kernel, by decide +kernel⟩
theorem mv_X5_size : zMv mX5_size 0 5 := ⟨me_X5_size, z_in 617 (by decide +kernel) (by decide +kernel), z_in 618 (by decide +kernel) (by decide +kernel), _, _, rfl⟩
abbrev mX5_sortsOf : zM := (yX5_sortsOf, cX5_sortsOf, 2, (some .int))
theorem co_X5_sortsOf : zcode mX5_sortsOf ∈ zT := z_in 464 (by decide +kernel) (by decide +kernel)
theorem me_X5_sortsOf : zMe mX5_sortsOf 1 := ⟨co_X5_sortsOf, ini_RX5, by decide +kernel, by decide +kernel, by decide +kernel⟩
theorem mv_X5_sortsOf : zMv mX5_sortsOf 1 5 := ⟨me_X5_sortsOf, z_in 462 (by decide +kernel) (by decide +kernel), z_in 463 (by decide +kernel) (by decide +kernel), _, _, rfl⟩
abbrev mX6_act : zM := (yX6_act, cX6_act, 4, (some .int))
theorem co_X6_act : zcode mX6_act ∈ zT := z_in 498 (by decide +kernel) (by decide +kernel)
theorem me_X6_act : zMe mX6_act 3 := ⟨co_X6_act, ini_RX6, by decide +kernel, by decide +kernel, by decide +kernel⟩
theorem mv_X6_act : zMv mX6_act 3 6 := ⟨me_X6_act, z_in 496 (by decide +kernel) (by decide +kernel), z_in 497 (by decide +kernel) (by decide +kernel), _, _, rfl⟩
abbrev mX6_aim : zM := (yX6_aim, cX6_aim, 5, (some .int))
theorem co_X6_aim : zcode mX6_aim ∈ zT := z_in 605 (by decide +kernel) (by decide +kernel)
theorem me_X6_aim : zMe mX6_aim 3 := ⟨co_X6_aim, ini_RX6, by decide +kernel, by decide +kernel, by decide +kernel⟩
theorem mv_X6_aim : zMv mX6_aim 3 6 := ⟨me_X6_aim, z_in 603 (by decide +kernel) (by decide +kernel), z_in 604 (by decide +kernel) (by decide +kernel), _, _, rfl⟩
abbrev mX6_alike : zM := (yX6_alike, cX6_alike, 3, (some .int))
theorem co_X6_alike : zcode mX6_alike ∈ zT := z_in 570 (by decide +kernel) (by decide +kernel)
theorem me_X6_alike : zMe mX6_alike 2 := ⟨co_X6_alike, ini_RX6, by decide +kernel, by decide +kernel, by decide +kernel⟩
theorem mv_X6_alike : zMv mX6_alike 2 6 := ⟨me_X6_alike, z_in 568 (by decide +kernel) (by decide +kernel), z_in 569 (by decide +kernel) (by decide +kernel), _, _, rfl⟩
abbrev mX6_as : zM := (yX6_as, cX6_as, 5, (some .int))
theorem co_X6_as : zcode mX6_as ∈ zT := z_in 480 (by decide +kernel) (by decide +kernel)
theorem me_X6_as : zMe mX6_as 2 := ⟨co_X6_as, ini_RX6, by decide +kernel, by decide +kernel, by decide +kernel⟩
theorem mv_X6_as : zMv mX6_as 2 6 := ⟨me_X6_as, z_in 478 (by decide +kernel) (by decide +kernel), z_in 479 (by decide +kernel) (by decide +kernel), _, _, rfl⟩
abbrev mX6_bestQuestion : zM := (yX6_bestQuestion, cX6_bestQuestion, 7, (some .int))
theorem co_X6_bestQuestion : zcode mX6_bestQuestion ∈ zT := z_in 467 (by decide +kernel) (by decide +kernel)
theorem me_X6_bestQuestion : zMe mX6_bestQuestion 1 := ⟨co_X6_bestQuestion, ini_RX6, by decide +kernel, by decide +kernel, by decide +kernel⟩
theorem ms_X6_bestQuestion : zMs mX6_bestQuestion 1 := ⟨me_X6_bestQuestion, z_in 466 (by decide +kernel) (by decide +kernel)⟩
abbrev mX6_blank : zM := (yX6_blank, cX6_blank, 2, (some .int))
theorem co_X6_blank : zcode mX6_blank ∈ zT := z_in 231 (by decide +kernel) (by decide +kernel)
theorem me_X6_blank : zMe mX6_blank 0 := ⟨co_X6_blank, ini_RX6, by decide +kernel, by decide +kernel, by decide +kernel⟩
theorem mv_X6_blank : zMv mX6_blank 0 6 := ⟨me_X6_blank, z_in 229 (by decide +kernel) (by decide +kernel), z_in 230 (by decide +kernel) (by decide +kernel), _, _, rfl⟩
abbrev mX6_change : zM := (yX6_change, cX6_change, 4, (some .int))
theorem co_X6_change : zcode mX6_change ∈ zT := z_in 610 (by decide +kernel) (by decide +kernel)
theorem me_X6_change : zMe mX6_change 2 := ⟨co_X6_change, ini_RX6, by decide +kernel, by decide +kernel, by decide +kernel⟩
theorem mv_X6_change : zMv mX6_change 2 6 := ⟨me_X6_change, z_in 608 (by decide +kernel) (by decide +kernel), z_in 609 (by decide +kernel) (by decide +kernel), _, _, rfl⟩
abbrev mX6_codeOfLetter : zM := (yX6_codeOfLetter, cX6_codeOfLetter, 1, (some .int))
theorem co_X6_codeOfLetter : zcode mX6_codeOfLetter ∈ zT := z_in 491 (by decide +kernel) (by decide +kernel)
theorem me_X6_codeOfLetter : zMe mX6_codeOfLetter 1 := ⟨co_X6_codeOfLetter, ini_RX6, by decide +kernel, by decide +kernel, by decide +kernel⟩
theorem ms_X6_codeOfLetter : zMs mX6_codeOfLetter 1 := ⟨me_X6_codeOfLetter, z_in 490 (by decide +kernel) (by decide +kernel)⟩
abbrev mX6_count : zM := (yX6_count, cX6_count, 2, (some .int))
theorem co_X6_count : zcode mX6_count ∈ zT := z_in 673 (by decide +kernel) (by decide +kernel)
theorem me_X6_count : zMe mX6_count 1 := ⟨co_X6_count, ini_RX6, by decide +kernel, by decide +kernel, by decide +kernel⟩
theorem mv_X6_count : zMv mX6_count 1 6 := ⟨me_X6_count, z_in 671 (by decide +kernel) (by decide +kernel), z_in 672 (by decide +kernel) (by decide +kernel), _, _, rfl⟩
abbrev mX6_digest : zM := (yX6_digest, cX6_digest, 5, (some .long))
theorem co_X6_digest : zcode mX6_digest ∈ zT := z_in 690 (by decide +kernel) (by decide +kernel)
theorem me_X6_digest : zMe mX6_digest 0 := ⟨co_X6_digest, ini_RX6, by decide +kernel, by decide +kernel, by decide +kernel⟩
theorem mv_X6_digest : zMv mX6_digest 0 6 := ⟨me_X6_digest, z_in 688 (by decide +kernel) (by decide +kernel), z_in 689 (by decide +kernel) (by decide +kernel), _, _, rfl⟩
abbrev mX6_digestOfWord : zM := (yX6_digestOfWord, cX6_digestOfWord, 7, (some .long))
theorem co_X6_digestOfWord : zcode mX6_digestOfWord ∈ zT := z_in 697 (by decide +kernel) (by decide +kernel)
theorem me_X6_digestOfWord : zMe mX6_digestOfWord 2 := ⟨co_X6_digestOfWord, ini_RX6, by decide +kernel, by decide +kernel, by decide +kernel⟩
theorem mv_X6_digestOfWord : zMv mX6_digestOfWord 2 6 := ⟨me_X6_digestOfWord, z_in 696 (by decide +kernel) (by decide +kernel), z_in 16 (by decide +kernel) (by decide +kernel), _, _, rfl⟩
abbrev mX6_drawWordToScratch : zM := (yX6_drawWordToScratch, cX6_drawWordToScratch, 4, none)
theorem co_X6_drawWordToScratch : zcode mX6_drawWordToScratch ∈ zT := z_in 639 (by decide +kernel) (by decide +kernel)
theorem me_X6_drawWordToScratch : zMe mX6_drawWordToScratch 0 := ⟨co_X6_drawWordToScratch, ini_RX6, by decide +kernel, by decide +kernel, by decide +kernel⟩
theorem mv_X6_drawWordToScratch : zMv mX6_drawWordToScratch 0 6 := ⟨me_X6_drawWordToScratch, z_in 638 (by decide +kernel) (by decide +kernel), z_in 14 (by decide +kernel) (by decide +kernel), _, _, rfl⟩
abbrev mX6_drawn : zM := (yX6_drawn, cX6_drawn, 9, (some .int))
theorem co_X6_drawn : zcode mX6_drawn ∈ zT := z_in 631 (by decide +kernel) (by decide +kernel)
theorem me_X6_drawn : zMe mX6_drawn 3 := ⟨co_X6_drawn, ini_RX6, by decide +kernel, by decide +kernel, by decide +kernel⟩
theorem mv_X6_drawn : zMv mX6_drawn 3 6 := ⟨me_X6_drawn, z_in 629 (by decide +kernel) (by decide +kernel), z_in 630 (by decide +kernel) (by decide +kernel), _, _, rfl⟩
abbrev mX6_fault : zM := (yX6_fault, cX6_fault, 1, (some .int))
theorem co_X6_fault : zcode mX6_fault ∈ zT := z_in 239 (by decide +kernel) (by decide +kernel)
theorem me_X6_fault : zMe mX6_fault 0 := ⟨co_X6_fault, ini_RX6, by decide +kernel, by decide +kernel, by decide +kernel⟩
theorem mv_X6_fault : zMv mX6_fault 0 6 := ⟨me_X6_fault, z_in 237 (by decide +kernel) (by decide +kernel), z_in 238 (by decide +kernel) (by decide +kernel), _, _, rfl⟩
abbrev mX6_flips : zM := (yX6_flips, cX6_flips, 6, (some .int))
theorem co_X6_flips : zcode mX6_flips ∈ zT := z_in 522 (by decide +kernel) (by decide +kernel)
theorem me_X6_flips : zMe mX6_flips 2 := ⟨co_X6_flips, ini_RX6, by decide +kernel, by decide +kernel, by decide +kernel⟩
theorem mv_X6_flips : zMv mX6_flips 2 6 := ⟨me_X6_flips, z_in 520 (by decide +kernel) (by decide +kernel), z_in 521 (by decide +kernel) (by decide +kernel), _, _, rfl⟩
abbrev mX6_forget : zM := (yX6_forget, cX6_forget, 2, (some .int))
theorem co_X6_forget : zcode mX6_forget ∈ zT := z_in 627 (by decide +kernel) (by decide +kernel)
theorem me_X6_forget : zMe mX6_forget 0 := ⟨co_X6_forget, ini_RX6, by decide +kernel, by decide +kernel, by decide +kernel⟩
theorem mv_X6_forget : zMv mX6_forget 0 6 := ⟨me_X6_forget, z_in 625 (by decide +kernel) (by decide +kernel), z_in 626 (by decide +kernel) (by decide +kernel), _, _, rfl⟩
abbrev mX6_image : zM := (yX6_image, cX6_image, 2, (some .int))
theorem co_X6_image : zcode mX6_image ∈ zT := z_in 656 (by decide +kernel) (by decide +kernel)
theorem me_X6_image : zMe mX6_image 0 := ⟨co_X6_image, ini_RX6, by decide +kernel, by decide +kernel, by decide +kernel⟩
theorem mv_X6_image : zMv mX6_image 0 6 := ⟨me_X6_image, z_in 654 (by decide +kernel) (by decide +kernel), z_in 655 (by decide +kernel) (by decide +kernel), _, _, rfl⟩
abbrev mX6_init : zM := (yX6_init, cX6_init, 2, none)
theorem co_X6_init : zcode mX6_init ∈ zT := z_in 74 (by decide +kernel) (by decide +kernel)
theorem me_X6_init : zMe mX6_init 0 := ⟨co_X6_init, ini_RX6, by decide +kernel, by decide +kernel, by decide +kernel⟩
abbrev mX6_inverseOf : zM := (yX6_inverseOf, cX6_inverseOf, 1, (some .int))
theorem co_X6_inverseOf : zcode mX6_inverseOf ∈ zT := z_in 400 (by decide +kernel) (by decide +kernel)
theorem me_X6_inverseOf : zMe mX6_inverseOf 1 := ⟨co_X6_inverseOf, ini_RX6, by decide +kernel, by decide +kernel, by decide +kernel⟩
theorem ms_X6_inverseOf : zMs mX6_inverseOf 1 := ⟨me_X6_inverseOf, z_in 399 (by decide +kernel) (by decide +kernel)⟩
abbrev mX6_isActing : zM := (yX6_isActing, cX6_isActing, 2, (some .boolean))
theorem co_X6_isActing : zcode mX6_isActing ∈ zT := z_in 371 (by decide +kernel) (by decide +kernel)
theorem me_X6_isActing : zMe mX6_isActing 1 := ⟨co_X6_isActing, ini_RX6, by decide +kernel, by decide +kernel, by decide +kernel⟩
theorem mv_X6_isActing : zMv mX6_isActing 1 6 := ⟨me_X6_isActing, z_in 370 (by decide +kernel) (by decide +kernel), z_in 0 (by decide +kernel) (by decide +kernel), _, _, rfl⟩
abbrev mX6_isInverse : zM := (yX6_isInverse, cX6_isInverse, 1, (some .boolean))
theorem co_X6_isInverse : zcode mX6_isInverse ∈ zT := z_in 494 (by decide +kernel) (by decide +kernel)
theorem me_X6_isInverse : zMe mX6_isInverse 1 := ⟨co_X6_isInverse, ini_RX6, by decide +kernel, by decide +kernel, by decide +kernel⟩
theorem ms_X6_isInverse : zMs mX6_isInverse 1 := ⟨me_X6_isInverse, z_in 493 (by decide +kernel) (by decide +kernel)⟩
abbrev mX6_isKind : zM := (yX6_isKind, cX6_isKind, 1, (some .boolean))
theorem co_X6_isKind : zcode mX6_isKind ∈ zT := z_in 483 (by decide +kernel) (by decide +kernel)
theorem me_X6_isKind : zMe mX6_isKind 1 := ⟨co_X6_isKind, ini_RX6, by decide +kernel, by decide +kernel, by decide +kernel⟩
theorem ms_X6_isKind : zMs mX6_isKind 1 := ⟨me_X6_isKind, z_in 482 (by decide +kernel) (by decide +kernel)⟩
abbrev mX6_isRow : zM := (yX6_isRow, cX6_isRow, 3, (some .boolean))
theorem co_X6_isRow : zcode mX6_isRow ∈ zT := z_in 501 (by decide +kernel) (by decide +kernel)
theorem me_X6_isRow : zMe mX6_isRow 3 := ⟨co_X6_isRow, ini_RX6, by decide +kernel, by decide +kernel, by decide +kernel⟩
theorem ms_X6_isRow : zMs mX6_isRow 3 := ⟨me_X6_isRow, z_in 500 (by decide +kernel) (by decide +kernel)⟩
abbrev mX6_isSign : zM := (yX6_isSign, cX6_isSign, 1, (some .boolean))
theorem co_X6_isSign : zcode mX6_isSign ∈ zT := z_in 351 (by decide +kernel) (by decide +kernel)
theorem me_X6_isSign : zMe mX6_isSign 1 := ⟨co_X6_isSign, ini_RX6, by decide +kernel, by decide +kernel, by decide +kernel⟩
theorem ms_X6_isSign : zMs mX6_isSign 1 := ⟨me_X6_isSign, z_in 350 (by decide +kernel) (by decide +kernel)⟩
abbrev mX6_isWord : zM := (yX6_isWord, cX6_isWord, 1, (some .boolean))
theorem co_X6_isWord : zcode mX6_isWord ∈ zT := z_in 374 (by decide +kernel) (by decide +kernel)
theorem me_X6_isWord : zMe mX6_isWord 1 := ⟨co_X6_isWord, ini_RX6, by decide +kernel, by decide +kernel, by decide +kernel⟩
theorem ms_X6_isWord : zMs mX6_isWord 1 := ⟨me_X6_isWord, z_in 373 (by decide +kernel) (by decide +kernel)⟩
abbrev mX6_isWordOnPage : zM := (yX6_isWordOnPage, cX6_isWordOnPage, 2, (some .boolean))
theorem co_X6_isWordOnPage : zcode mX6_isWordOnPage ∈ zT := z_in 378 (by decide +kernel) (by decide +kernel)
theorem me_X6_isWordOnPage : zMe mX6_isWordOnPage 0 := ⟨co_X6_isWordOnPage, ini_RX6, by decide +kernel, by decide +kernel, by decide +kernel⟩
theorem mv_X6_isWordOnPage : zMv mX6_isWordOnPage 0 6 := ⟨me_X6_isWordOnPage, z_in 377 (by decide +kernel) (by decide +kernel), z_in 1 (by decide +kernel) (by decide +kernel), _, _, rfl⟩
abbrev mX6_letter : zM := (yX6_letter, cX6_letter, 2, (some .int))
theorem co_X6_letter : zcode mX6_letter ∈ zT := z_in 219 (by decide +kernel) (by decide +kernel)
theorem me_X6_letter : zMe mX6_letter 1 := ⟨co_X6_letter, ini_RX6, by decide +kernel, by decide +kernel, by decide +kernel⟩
theorem mv_X6_letter : zMv mX6_letter 1 6 := ⟨me_X6_letter, z_in 217 (by decide +kernel) (by decide +kernel), z_in 218 (by decide +kernel) (by decide +kernel), _, _, rfl⟩
abbrev mX6_letterOf : zM := (yX6_letterOf, cX6_letterOf, 2, (some .int))
theorem co_X6_letterOf : zcode mX6_letterOf ∈ zT := z_in 385 (by decide +kernel) (by decide +kernel)
theorem me_X6_letterOf : zMe mX6_letterOf 2 := ⟨co_X6_letterOf, ini_RX6, by decide +kernel, by decide +kernel, by decide +kernel⟩
theorem ms_X6_letterOf : zMs mX6_letterOf 2 := ⟨me_X6_letterOf, z_in 384 (by decide +kernel) (by decide +kernel)⟩
abbrev mX6_letterOfCode : zM := (yX6_letterOfCode, cX6_letterOfCode, 1, (some .int))
theorem co_X6_letterOfCode : zcode mX6_letterOfCode ∈ zT := z_in 382 (by decide +kernel) (by decide +kernel)
theorem me_X6_letterOfCode : zMe mX6_letterOfCode 1 := ⟨co_X6_letterOfCode, ini_RX6, by decide +kernel, by decide +kernel, by decide +kernel⟩
theorem ms_X6_letterOfCode : zMs mX6_letterOfCode 1 := ⟨me_X6_letterOfCode, z_in 381 (by decide +kernel) (by decide +kernel)⟩
abbrev mX6_lettersOfAllWords : zM := (yX6_lettersOfAllWords, cX6_lettersOfAllWords, 3, (some .int))
theorem co_X6_lettersOfAllWords : zcode mX6_lettersOfAllWords ∈ zT := z_in 686 (by decide +kernel) (by decide +kernel)
theorem me_X6_lettersOfAllWords : zMe mX6_lettersOfAllWords 0 := ⟨co_X6_lettersOfAllWords, ini_RX6, by decide +kernel, by decide +kernel, by decide +kernel⟩
theorem mv_X6_lettersOfAllWords : zMv mX6_lettersOfAllWords 0 6 := ⟨me_X6_lettersOfAllWords, z_in 685 (by decide +kernel) (by decide +kernel), z_in 15 (by decide +kernel) (by decide +kernel), _, _, rfl⟩
abbrev mX6_machine : zM := (yX6_machine, cX6_machine, 2, (some .int))
theorem co_X6_machine : zcode mX6_machine ∈ zT := z_in 310 (by decide +kernel) (by decide +kernel)
theorem me_X6_machine : zMe mX6_machine 0 := ⟨co_X6_machine, ini_RX6, by decide +kernel, by decide +kernel, by decide +kernel⟩
theorem mv_X6_machine : zMv mX6_machine 0 6 := ⟨me_X6_machine, z_in 308 (by decide +kernel) (by decide +kernel), z_in 309 (by decide +kernel) (by decide +kernel), _, _, rfl⟩
abbrev mX6_nothing : zM := (yX6_nothing, cX6_nothing, 2, (some .int))
theorem co_X6_nothing : zcode mX6_nothing ∈ zT := z_in 530 (by decide +kernel) (by decide +kernel)
theorem me_X6_nothing : zMe mX6_nothing 1 := ⟨co_X6_nothing, ini_RX6, by decide +kernel, by decide +kernel, by decide +kernel⟩
theorem mv_X6_nothing : zMv mX6_nothing 1 6 := ⟨me_X6_nothing, z_in 528 (by decide +kernel) (by decide +kernel), z_in 529 (by decide +kernel) (by decide +kernel), _, _, rfl⟩
abbrev mX6_order : zM := (yX6_order, cX6_order, 4, (some .int))
theorem co_X6_order : zcode mX6_order ∈ zT := z_in 583 (by decide +kernel) (by decide +kernel)
theorem me_X6_order : zMe mX6_order 1 := ⟨co_X6_order, ini_RX6, by decide +kernel, by decide +kernel, by decide +kernel⟩
theorem mv_X6_order : zMv mX6_order 1 6 := ⟨me_X6_order, z_in 581 (by decide +kernel) (by decide +kernel), z_in 582 (by decide +kernel) (by decide +kernel), _, _, rfl⟩
abbrev mX6_restore : zM := (yX6_restore, cX6_restore, 2, (some .int))
theorem co_X6_restore : zcode mX6_restore ∈ zT := z_in 669 (by decide +kernel) (by decide +kernel)
theorem me_X6_restore : zMe mX6_restore 0 := ⟨co_X6_restore, ini_RX6, by decide +kernel, by decide +kernel, by decide +kernel⟩
theorem mv_X6_restore : zMv mX6_restore 0 6 := ⟨me_X6_restore, z_in 667 (by decide +kernel) (by decide +kernel), z_in 668 (by decide +kernel) (by decide +kernel), _, _, rfl⟩
abbrev mX6_round : zM := (yX6_round, cX6_round, 6, (some .int))
theorem co_X6_round : zcode mX6_round ∈ zT := z_in 526 (by decide +kernel) (by decide +kernel)
theorem me_X6_round : zMe mX6_round 3 := ⟨co_X6_round, ini_RX6, by decide +kernel, by decide +kernel, by decide +kernel⟩
theorem mv_X6_round : zMv mX6_round 3 6 := ⟨me_X6_round, z_in 524 (by decide +kernel) (by decide +kernel), z_in 525 (by decide +kernel) (by decide +kernel), _, _, rfl⟩
abbrev mX6_section : zM := (yX6_section, cX6_section, 4, (some .int))
theorem co_X6_section : zcode mX6_section ∈ zT := z_in 599 (by decide +kernel) (by decide +kernel)
theorem me_X6_section : zMe mX6_section 3 := ⟨co_X6_section, ini_RX6, by decide +kernel, by decide +kernel, by decide +kernel⟩
theorem mv_X6_section : zMv mX6_section 3 6 := ⟨me_X6_section, z_in 597 (by decide +kernel) (by decide +kernel), z_in 598 (by decide +kernel) (by decide +kernel), _, _, rfl⟩
abbrev mX6_see : zM := (yX6_see, cX6_see, 4, (some .int))
theorem co_X6_see : zcode mX6_see ∈ zT := z_in 615 (by decide +kernel) (by decide +kernel)
theorem me_X6_see : zMe mX6_see 3 := ⟨co_X6_see, ini_RX6, by decide +kernel, by decide +kernel, by decide +kernel⟩
theorem mv_X6_see : zMv mX6_see 3 6 := ⟨me_X6_see, z_in 613 (by decide +kernel) (by decide +kernel), z_in 614 (by decide +kernel) (by decide +kernel), _, _, rfl⟩
abbrev mX6_sign : zM := (yX6_sign, cX6_sign, 3, (some .int))
theorem co_X6_sign : zcode mX6_sign ∈ zT := z_in 487 (by decide +kernel) (by decide +kernel)
theorem me_X6_sign : zMe mX6_sign 2 := ⟨co_X6_sign, ini_RX6, by decide +kernel, by decide +kernel, by decide +kernel⟩
theorem mv_X6_sign : zMv mX6_sign 2 6 := ⟨me_X6_sign, z_in 485 (by decide +kernel) (by decide +kernel), z_in 486 (by decide +kernel) (by decide +kernel), _, _, rfl⟩
abbrev mX6_state : zM := (yX6_state, cX6_state, 3, (some .int))
theorem co_X6_state : zcode mX6_state ∈ zT := z_in 412 (by decide +kernel) (by decide +kernel)
theorem me_X6_state : zMe mX6_state 2 := ⟨co_X6_state, ini_RX6, by decide +kernel, by decide +kernel, by decide +kernel⟩
theorem mv_X6_state : zMv mX6_state 2 6 := ⟨me_X6_state, z_in 410 (by decide +kernel) (by decide +kernel), z_in 411 (by decide +kernel) (by decide +kernel), _, _, rfl⟩
abbrev mX6_stateOf : zM := (yX6_stateOf, cX6_stateOf, 1, (some .int))
theorem co_X6_stateOf : zcode mX6_stateOf ∈ zT := z_in 388 (by decide +kernel) (by decide +kernel)
theorem me_X6_stateOf : zMe mX6_stateOf 1 := ⟨co_X6_stateOf, ini_RX6, by decide +kernel, by decide +kernel, by decide +kernel⟩
theorem ms_X6_stateOf : zMs mX6_stateOf 1 := ⟨me_X6_stateOf, z_in 387 (by decide +kernel) (by decide +kernel)⟩
abbrev mX6_times : zM := (yX6_times, cX6_times, 4, (some .int))
theorem co_X6_times : zcode mX6_times ∈ zT := z_in 591 (by decide +kernel) (by decide +kernel)
theorem me_X6_times : zMe mX6_times 3 := ⟨co_X6_times, ini_RX6, by decide +kernel, by decide +kernel, by decide +kernel⟩
theorem mv_X6_times : zMv mX6_times 3 6 := ⟨me_X6_times, z_in 589 (by decide +kernel) (by decide +kernel), z_in 590 (by decide +kernel) (by decide +kernel), _, _, rfl⟩
abbrev mX6_undo : zM := (yX6_undo, cX6_undo, 3, (some .int))
theorem co_X6_undo : zcode mX6_undo ∈ zT := z_in 595 (by decide +kernel) (by decide +kernel)
theorem me_X6_undo : zMe mX6_undo 2 := ⟨co_X6_undo, ini_RX6, by decide +kernel, by decide +kernel, by decide +kernel⟩
theorem mv_X6_undo : zMv mX6_undo 2 6 := ⟨me_X6_undo, z_in 593 (by decide +kernel) (by decide +kernel), z_in 594 (by decide +kernel) (by decide +kernel), _, _, rfl⟩
abbrev mX6_word : zM := (yX6_word, cX6_word, 4, (some .int))
theorem co_X6_word : zcode mX6_word ∈ zT := z_in 367 (by decide +kernel) (by decide +kernel)
theorem me_X6_word : zMe mX6_word 1 := ⟨co_X6_word, ini_RX6, by decide +kernel, by decide +kernel, by decide +kernel⟩
theorem mv_X6_word : zMv mX6_word 1 6 := ⟨me_X6_word, z_in 365 (by decide +kernel) (by decide +kernel), z_in 366 (by decide +kernel) (by decide +kernel), _, _, rfl⟩
abbrev mX7_act : zM := (yX7_act, cX7_act, 4, (some .int))
theorem co_X7_act : zcode mX7_act ∈ zT := z_in 940 (by decide +kernel) (by decide +kernel)
theorem me_X7_act : zMe mX7_act 3 := ⟨co_X7_act, ini_RX7, by decide +kernel, by decide +kernel, by decide +kernel⟩
theorem mv_X7_act : zMv mX7_act 3 7 := ⟨me_X7_act, z_in 938 (by decide +kernel) (by decide +kernel), z_in 939 (by decide +kernel) (by decide +kernel), _, _, rfl⟩
abbrev mX7_actLetter : zM := (yX7_actLetter, cX7_actLetter, 8, (some .int))
theorem co_X7_actLetter : zcode mX7_actLetter ∈ zT := z_in 896 (by decide +kernel) (by decide +kernel)
theorem me_X7_actLetter : zMe mX7_actLetter 3 := ⟨co_X7_actLetter, ini_RX7, by decide +kernel, by decide +kernel, by decide +kernel⟩
theorem mv_X7_actLetter : zMv mX7_actLetter 3 7 := ⟨me_X7_actLetter, z_in 895 (by decide +kernel) (by decide +kernel), z_in 30 (by decide +kernel) (by decide +kernel), _, _, rfl⟩
abbrev mX7_actWord : zM := (yX7_actWord, cX7_actWord, 6, (some .int))
theorem co_X7_actWord : zcode mX7_actWord ∈ zT := z_in 947 (by decide +kernel) (by decide +kernel)
theorem me_X7_actWord : zMe mX7_actWord 3 := ⟨co_X7_actWord, ini_RX7, by decide +kernel, by decide +kernel, by decide +kernel⟩
theorem mv_X7_actWord : zMv mX7_actWord 3 7 := ⟨me_X7_actWord, z_in 946 (by decide +kernel) (by decide +kernel), z_in 35 (by decide +kernel) (by decide +kernel), _, _, rfl⟩
abbrev mX7_aim : zM := (yX7_aim, cX7_aim, 5, (some .int))
theorem co_X7_aim : zcode mX7_aim ∈ zT := z_in 1027 (by decide +kernel) (by decide +kernel)
theorem me_X7_aim : zMe mX7_aim 3 := ⟨co_X7_aim, ini_RX7, by decide +kernel, by decide +kernel, by decide +kernel⟩
theorem mv_X7_aim : zMv mX7_aim 3 7 := ⟨me_X7_aim, z_in 1025 (by decide +kernel) (by decide +kernel), z_in 1026 (by decide +kernel) (by decide +kernel), _, _, rfl⟩
abbrev mX7_aimOf : zM := (yX7_aimOf, cX7_aimOf, 1, (some .int))
theorem co_X7_aimOf : zcode mX7_aimOf ∈ zT := z_in 833 (by decide +kernel) (by decide +kernel)
theorem me_X7_aimOf : zMe mX7_aimOf 1 := ⟨co_X7_aimOf, ini_RX7, by decide +kernel, by decide +kernel, by decide +kernel⟩
theorem ms_X7_aimOf : zMs mX7_aimOf 1 := ⟨me_X7_aimOf, z_in 832 (by decide +kernel) (by decide +kernel)⟩
abbrev mX7_alike : zM := (yX7_alike, cX7_alike, 3, (some .int))
theorem co_X7_alike : zcode mX7_alike ∈ zT := z_in 999 (by decide +kernel) (by decide +kernel)
theorem me_X7_alike : zMe mX7_alike 2 := ⟨co_X7_alike, ini_RX7, by decide +kernel, by decide +kernel, by decide +kernel⟩
theorem mv_X7_alike : zMv mX7_alike 2 7 := ⟨me_X7_alike, z_in 997 (by decide +kernel) (by decide +kernel), z_in 998 (by decide +kernel) (by decide +kernel), _, _, rfl⟩
abbrev mX7_as : zM := (yX7_as, cX7_as, 3, (some .int))
theorem co_X7_as : zcode mX7_as ∈ zT := z_in 926 (by decide +kernel) (by decide +kernel)
theorem me_X7_as : zMe mX7_as 2 := ⟨co_X7_as, ini_RX7, by decide +kernel, by decide +kernel, by decide +kernel⟩
theorem mv_X7_as : zMv mX7_as 2 7 := ⟨me_X7_as, z_in 924 (by decide +kernel) (by decide +kernel), z_in 925 (by decide +kernel) (by decide +kernel), _, _, rfl⟩
abbrev mX7_ask : zM := (yX7_ask, cX7_ask, 9, (some .int))
theorem co_X7_ask : zcode mX7_ask ∈ zT := z_in 915 (by decide +kernel) (by decide +kernel)
theorem me_X7_ask : zMe mX7_ask 1 := ⟨co_X7_ask, ini_RX7, by decide +kernel, by decide +kernel, by decide +kernel⟩
theorem mv_X7_ask : zMv mX7_ask 1 7 := ⟨me_X7_ask, z_in 914 (by decide +kernel) (by decide +kernel), z_in 34 (by decide +kernel) (by decide +kernel), _, _, rfl⟩
abbrev mX7_begin : zM := (yX7_begin, cX7_begin, 1, none)
theorem co_X7_begin : zcode mX7_begin ∈ zT := z_in 849 (by decide +kernel) (by decide +kernel)
theorem me_X7_begin : zMe mX7_begin 0 := ⟨co_X7_begin, ini_RX7, by decide +kernel, by decide +kernel, by decide +kernel⟩
theorem mv_X7_begin : zMv mX7_begin 0 7 := ⟨me_X7_begin, z_in 848 (by decide +kernel) (by decide +kernel), z_in 20 (by decide +kernel) (by decide +kernel), _, _, rfl⟩
abbrev mX7_blank : zM := (yX7_blank, cX7_blank, 2, (some .int))
theorem co_X7_blank : zcode mX7_blank ∈ zT := z_in 811 (by decide +kernel) (by decide +kernel)
theorem me_X7_blank : zMe mX7_blank 0 := ⟨co_X7_blank, ini_RX7, by decide +kernel, by decide +kernel, by decide +kernel⟩
theorem mv_X7_blank : zMv mX7_blank 0 7 := ⟨me_X7_blank, z_in 809 (by decide +kernel) (by decide +kernel), z_in 810 (by decide +kernel) (by decide +kernel), _, _, rfl⟩
abbrev mX7_change : zM := (yX7_change, cX7_change, 4, (some .int))
theorem co_X7_change : zcode mX7_change ∈ zT := z_in 1031 (by decide +kernel) (by decide +kernel)
theorem me_X7_change : zMe mX7_change 2 := ⟨co_X7_change, ini_RX7, by decide +kernel, by decide +kernel, by decide +kernel⟩
theorem mv_X7_change : zMv mX7_change 2 7 := ⟨me_X7_change, z_in 1029 (by decide +kernel) (by decide +kernel), z_in 1030 (by decide +kernel) (by decide +kernel), _, _, rfl⟩
abbrev mX7_classes : zM := (yX7_classes, cX7_classes, 3, (some .int))
theorem co_X7_classes : zcode mX7_classes ∈ zT := z_in 1078 (by decide +kernel) (by decide +kernel)
theorem me_X7_classes : zMe mX7_classes 0 := ⟨co_X7_classes, ini_RX7, by decide +kernel, by decide +kernel, by decide +kernel⟩
theorem mv_X7_classes : zMv mX7_classes 0 7 := ⟨me_X7_classes, z_in 1077 (by decide +kernel) (by decide +kernel), z_in 50 (by decide +kernel) (by decide +kernel), _, _, rfl⟩
abbrev mX7_codeOf : zM := (yX7_codeOf, cX7_codeOf, 1, (some .int))
theorem co_X7_codeOf : zcode mX7_codeOf ∈ zT := z_in 936 (by decide +kernel) (by decide +kernel)
theorem me_X7_codeOf : zMe mX7_codeOf 1 := ⟨co_X7_codeOf, ini_RX7, by decide +kernel, by decide +kernel, by decide +kernel⟩
theorem ms_X7_codeOf : zMs mX7_codeOf 1 := ⟨me_X7_codeOf, z_in 935 (by decide +kernel) (by decide +kernel)⟩
abbrev mX7_comes : zM := (yX7_comes, cX7_comes, 2, none)
theorem co_X7_comes : zcode mX7_comes ∈ zT := z_in 853 (by decide +kernel) (by decide +kernel)
theorem me_X7_comes : zMe mX7_comes 1 := ⟨co_X7_comes, ini_RX7, by decide +kernel, by decide +kernel, by decide +kernel⟩
theorem mv_X7_comes : zMv mX7_comes 1 7 := ⟨me_X7_comes, z_in 852 (by decide +kernel) (by decide +kernel), z_in 21 (by decide +kernel) (by decide +kernel), _, _, rfl⟩
abbrev mX7_comesInverse : zM := (yX7_comesInverse, cX7_comesInverse, 3, none)
theorem co_X7_comesInverse : zcode mX7_comesInverse ∈ zT := z_in 1003 (by decide +kernel) (by decide +kernel)
theorem me_X7_comesInverse : zMe mX7_comesInverse 1 := ⟨co_X7_comesInverse, ini_RX7, by decide +kernel, by decide +kernel, by decide +kernel⟩
theorem mv_X7_comesInverse : zMv mX7_comesInverse 1 7 := ⟨me_X7_comesInverse, z_in 1002 (by decide +kernel) (by decide +kernel), z_in 45 (by decide +kernel) (by decide +kernel), _, _, rfl⟩
abbrev mX7_comesWord : zM := (yX7_comesWord, cX7_comesWord, 3, none)
theorem co_X7_comesWord : zcode mX7_comesWord ∈ zT := z_in 975 (by decide +kernel) (by decide +kernel)
theorem me_X7_comesWord : zMe mX7_comesWord 1 := ⟨co_X7_comesWord, ini_RX7, by decide +kernel, by decide +kernel, by decide +kernel⟩
theorem mv_X7_comesWord : zMv mX7_comesWord 1 7 := ⟨me_X7_comesWord, z_in 974 (by decide +kernel) (by decide +kernel), z_in 39 (by decide +kernel) (by decide +kernel), _, _, rfl⟩
abbrev mX7_copy : zM := (yX7_copy, cX7_copy, 4, none)
theorem co_X7_copy : zcode mX7_copy ∈ zT := z_in 1062 (by decide +kernel) (by decide +kernel)
theorem me_X7_copy : zMe mX7_copy 3 := ⟨co_X7_copy, ini_RX7, by decide +kernel, by decide +kernel, by decide +kernel⟩
theorem ms_X7_copy : zMs mX7_copy 3 := ⟨me_X7_copy, z_in 1061 (by decide +kernel) (by decide +kernel)⟩
abbrev mX7_core : zM := (yX7_core, cX7_core, 3, (some .int))
theorem co_X7_core : zcode mX7_core ∈ zT := z_in 1082 (by decide +kernel) (by decide +kernel)
theorem me_X7_core : zMe mX7_core 0 := ⟨co_X7_core, ini_RX7, by decide +kernel, by decide +kernel, by decide +kernel⟩
theorem mv_X7_core : zMv mX7_core 0 7 := ⟨me_X7_core, z_in 1081 (by decide +kernel) (by decide +kernel), z_in 51 (by decide +kernel) (by decide +kernel), _, _, rfl⟩
abbrev mX7_could : zM := (yX7_could, cX7_could, 2, (some .boolean))
theorem co_X7_could : zcode mX7_could ∈ zT := z_in 911 (by decide +kernel) (by decide +kernel)
theorem me_X7_could : zMe mX7_could 2 := ⟨co_X7_could, ini_RX7, by decide +kernel, by decide +kernel, by decide +kernel⟩
theorem ms_X7_could : zMs mX7_could 2 := ⟨me_X7_could, z_in 910 (by decide +kernel) (by decide +kernel)⟩
abbrev mX7_count : zM := (yX7_count, cX7_count, 2, (some .int))
theorem co_X7_count : zcode mX7_count ∈ zT := z_in 1070 (by decide +kernel) (by decide +kernel)
theorem me_X7_count : zMe mX7_count 1 := ⟨co_X7_count, ini_RX7, by decide +kernel, by decide +kernel, by decide +kernel⟩
theorem mv_X7_count : zMv mX7_count 1 7 := ⟨me_X7_count, z_in 1068 (by decide +kernel) (by decide +kernel), z_in 1069 (by decide +kernel) (by decide +kernel), _, _, rfl⟩
abbrev mX7_digest : zM := (yX7_digest, cX7_digest, 3, (some .long))
theorem co_X7_digest : zcode mX7_digest ∈ zT := z_in 1086 (by decide +kernel) (by decide +kernel)
theorem me_X7_digest : zMe mX7_digest 0 := ⟨co_X7_digest, ini_RX7, by decide +kernel, by decide +kernel, by decide +kernel⟩
theorem mv_X7_digest : zMv mX7_digest 0 7 := ⟨me_X7_digest, z_in 1084 (by decide +kernel) (by decide +kernel), z_in 1085 (by decide +kernel) (by decide +kernel), _, _, rfl⟩
abbrev mX7_drawOf : zM := (yX7_drawOf, cX7_drawOf, 2, (some .int))
theorem co_X7_drawOf : zcode mX7_drawOf ∈ zT := z_in 1051 (by decide +kernel) (by decide +kernel)
theorem me_X7_drawOf : zMe mX7_drawOf 1 := ⟨co_X7_drawOf, ini_RX7, by decide +kernel, by decide +kernel, by decide +kernel⟩
theorem mv_X7_drawOf : zMv mX7_drawOf 1 7 := ⟨me_X7_drawOf, z_in 1050 (by decide +kernel) (by decide +kernel), z_in 48 (by decide +kernel) (by decide +kernel), _, _, rfl⟩
abbrev mX7_drawn : zM := (yX7_drawn, cX7_drawn, 4, (some .int))
theorem co_X7_drawn : zcode mX7_drawn ∈ zT := z_in 1043 (by decide +kernel) (by decide +kernel)
theorem me_X7_drawn : zMe mX7_drawn 3 := ⟨co_X7_drawn, ini_RX7, by decide +kernel, by decide +kernel, by decide +kernel⟩
theorem mv_X7_drawn : zMv mX7_drawn 3 7 := ⟨me_X7_drawn, z_in 1041 (by decide +kernel) (by decide +kernel), z_in 1042 (by decide +kernel) (by decide +kernel), _, _, rfl⟩
abbrev mX7_drawnNow : zM := (yX7_drawnNow, cX7_drawnNow, 10, (some .int))
theorem co_X7_drawnNow : zcode mX7_drawnNow ∈ zT := z_in 1047 (by decide +kernel) (by decide +kernel)
theorem me_X7_drawnNow : zMe mX7_drawnNow 3 := ⟨co_X7_drawnNow, ini_RX7, by decide +kernel, by decide +kernel, by decide +kernel⟩
theorem mv_X7_drawnNow : zMv mX7_drawnNow 3 7 := ⟨me_X7_drawnNow, z_in 1046 (by decide +kernel) (by decide +kernel), z_in 47 (by decide +kernel) (by decide +kernel), _, _, rfl⟩
abbrev mX7_enlist : zM := (yX7_enlist, cX7_enlist, 3, none)
theorem co_X7_enlist : zcode mX7_enlist ∈ zT := z_in 983 (by decide +kernel) (by decide +kernel)
theorem me_X7_enlist : zMe mX7_enlist 0 := ⟨co_X7_enlist, ini_RX7, by decide +kernel, by decide +kernel, by decide +kernel⟩
theorem mv_X7_enlist : zMv mX7_enlist 0 7 := ⟨me_X7_enlist, z_in 982 (by decide +kernel) (by decide +kernel), z_in 41 (by decide +kernel) (by decide +kernel), _, _, rfl⟩
abbrev mX7_fault : zM := (yX7_fault, cX7_fault, 2, (some .int))
theorem co_X7_fault : zcode mX7_fault ∈ zT := z_in 815 (by decide +kernel) (by decide +kernel)
theorem me_X7_fault : zMe mX7_fault 0 := ⟨co_X7_fault, ini_RX7, by decide +kernel, by decide +kernel, by decide +kernel⟩
theorem mv_X7_fault : zMv mX7_fault 0 7 := ⟨me_X7_fault, z_in 813 (by decide +kernel) (by decide +kernel), z_in 814 (by decide +kernel) (by decide +kernel), _, _, rfl⟩
abbrev mX7_fitsAt : zM := (yX7_fitsAt, cX7_fitsAt, 2, (some .boolean))
theorem co_X7_fitsAt : zcode mX7_fitsAt ∈ zT := z_in 818 (by decide +kernel) (by decide +kernel)
theorem me_X7_fitsAt : zMe mX7_fitsAt 2 := ⟨co_X7_fitsAt, ini_RX7, by decide +kernel, by decide +kernel, by decide +kernel⟩
theorem ms_X7_fitsAt : zMs mX7_fitsAt 2 := ⟨me_X7_fitsAt, z_in 817 (by decide +kernel) (by decide +kernel)⟩
abbrev mX7_flipOf : zM := (yX7_flipOf, cX7_flipOf, 2, (some .int))
theorem co_X7_flipOf : zcode mX7_flipOf ∈ zT := z_in 900 (by decide +kernel) (by decide +kernel)
theorem me_X7_flipOf : zMe mX7_flipOf 1 := ⟨co_X7_flipOf, ini_RX7, by decide +kernel, by decide +kernel, by decide +kernel⟩
theorem mv_X7_flipOf : zMv mX7_flipOf 1 7 := ⟨me_X7_flipOf, z_in 899 (by decide +kernel) (by decide +kernel), z_in 31 (by decide +kernel) (by decide +kernel), _, _, rfl⟩
abbrev mX7_flips : zM := (yX7_flips, cX7_flips, 3, (some .int))
theorem co_X7_flips : zcode mX7_flips ∈ zT := z_in 951 (by decide +kernel) (by decide +kernel)
theorem me_X7_flips : zMe mX7_flips 2 := ⟨co_X7_flips, ini_RX7, by decide +kernel, by decide +kernel, by decide +kernel⟩
theorem mv_X7_flips : zMv mX7_flips 2 7 := ⟨me_X7_flips, z_in 949 (by decide +kernel) (by decide +kernel), z_in 950 (by decide +kernel) (by decide +kernel), _, _, rfl⟩
abbrev mX7_flipsOf : zM := (yX7_flipsOf, cX7_flipsOf, 5, (some .int))
theorem co_X7_flipsOf : zcode mX7_flipsOf ∈ zT := z_in 955 (by decide +kernel) (by decide +kernel)
theorem me_X7_flipsOf : zMe mX7_flipsOf 2 := ⟨co_X7_flipsOf, ini_RX7, by decide +kernel, by decide +kernel, by decide +kernel⟩
theorem mv_X7_flipsOf : zMv mX7_flipsOf 2 7 := ⟨me_X7_flipsOf, z_in 954 (by decide +kernel) (by decide +kernel), z_in 36 (by decide +kernel) (by decide +kernel), _, _, rfl⟩
abbrev mX7_forget : zM := (yX7_forget, cX7_forget, 2, (some .int))
theorem co_X7_forget : zcode mX7_forget ∈ zT := z_in 1039 (by decide +kernel) (by decide +kernel)
theorem me_X7_forget : zMe mX7_forget 0 := ⟨co_X7_forget, ini_RX7, by decide +kernel, by decide +kernel, by decide +kernel⟩
theorem mv_X7_forget : zMv mX7_forget 0 7 := ⟨me_X7_forget, z_in 1037 (by decide +kernel) (by decide +kernel), z_in 1038 (by decide +kernel) (by decide +kernel), _, _, rfl⟩
abbrev mX7_goesOn : zM := (yX7_goesOn, cX7_goesOn, 3, (some .int))
theorem co_X7_goesOn : zcode mX7_goesOn ∈ zT := z_in 881 (by decide +kernel) (by decide +kernel)
theorem me_X7_goesOn : zMe mX7_goesOn 2 := ⟨co_X7_goesOn, ini_RX7, by decide +kernel, by decide +kernel, by decide +kernel⟩
theorem mv_X7_goesOn : zMv mX7_goesOn 2 7 := ⟨me_X7_goesOn, z_in 880 (by decide +kernel) (by decide +kernel), z_in 27 (by decide +kernel) (by decide +kernel), _, _, rfl⟩
abbrev mX7_howMany : zM := (yX7_howMany, cX7_howMany, 2, (some .int))
theorem co_X7_howMany : zcode mX7_howMany ∈ zT := z_in 1074 (by decide +kernel) (by decide +kernel)
theorem me_X7_howMany : zMe mX7_howMany 1 := ⟨co_X7_howMany, ini_RX7, by decide +kernel, by decide +kernel, by decide +kernel⟩
theorem mv_X7_howMany : zMv mX7_howMany 1 7 := ⟨me_X7_howMany, z_in 1073 (by decide +kernel) (by decide +kernel), z_in 49 (by decide +kernel) (by decide +kernel), _, _, rfl⟩
abbrev mX7_image : zM := (yX7_image, cX7_image, 2, (some .int))
theorem co_X7_image : zcode mX7_image ∈ zT := z_in 1059 (by decide +kernel) (by decide +kernel)
theorem me_X7_image : zMe mX7_image 0 := ⟨co_X7_image, ini_RX7, by decide +kernel, by decide +kernel, by decide +kernel⟩
theorem mv_X7_image : zMv mX7_image 0 7 := ⟨me_X7_image, z_in 1057 (by decide +kernel) (by decide +kernel), z_in 1058 (by decide +kernel) (by decide +kernel), _, _, rfl⟩
abbrev mX7_init : zM := (yX7_init, cX7_init, 1, none)
theorem co_X7_init : zcode mX7_init ∈ zT := z_in 707 (by decide +kernel) (by decide +kernel)
theorem me_X7_init : zMe mX7_init 0 := ⟨co_X7_init, ini_RX7, by decide +kernel, by decide +kernel, by decide +kernel⟩
abbrev mX7_isAimed : zM := (yX7_isAimed, cX7_isAimed, 4, (some .boolean))
theorem co_X7_isAimed : zcode mX7_isAimed ∈ zT := z_in 830 (by decide +kernel) (by decide +kernel)
theorem me_X7_isAimed : zMe mX7_isAimed 1 := ⟨co_X7_isAimed, ini_RX7, by decide +kernel, by decide +kernel, by decide +kernel⟩
theorem mv_X7_isAimed : zMv mX7_isAimed 1 7 := ⟨me_X7_isAimed, z_in 829 (by decide +kernel) (by decide +kernel), z_in 17 (by decide +kernel) (by decide +kernel), _, _, rfl⟩
abbrev mX7_isAlike : zM := (yX7_isAlike, cX7_isAlike, 5, (some .boolean))
theorem co_X7_isAlike : zcode mX7_isAlike ∈ zT := z_in 892 (by decide +kernel) (by decide +kernel)
theorem me_X7_isAlike : zMe mX7_isAlike 2 := ⟨co_X7_isAlike, ini_RX7, by decide +kernel, by decide +kernel, by decide +kernel⟩
theorem mv_X7_isAlike : zMv mX7_isAlike 2 7 := ⟨me_X7_isAlike, z_in 891 (by decide +kernel) (by decide +kernel), z_in 29 (by decide +kernel) (by decide +kernel), _, _, rfl⟩
abbrev mX7_isBit : zM := (yX7_isBit, cX7_isBit, 2, (some .boolean))
theorem co_X7_isBit : zcode mX7_isBit ∈ zT := z_in 884 (by decide +kernel) (by decide +kernel)
theorem me_X7_isBit : zMe mX7_isBit 2 := ⟨co_X7_isBit, ini_RX7, by decide +kernel, by decide +kernel, by decide +kernel⟩
theorem ms_X7_isBit : zMs mX7_isBit 2 := ⟨me_X7_isBit, z_in 883 (by decide +kernel) (by decide +kernel)⟩
abbrev mX7_isFlipping : zM := (yX7_isFlipping, cX7_isFlipping, 4, (some .boolean))
theorem co_X7_isFlipping : zcode mX7_isFlipping ∈ zT := z_in 991 (by decide +kernel) (by decide +kernel)
theorem me_X7_isFlipping : zMe mX7_isFlipping 1 := ⟨co_X7_isFlipping, ini_RX7, by decide +kernel, by decide +kernel, by decide +kernel⟩
theorem mv_X7_isFlipping : zMv mX7_isFlipping 1 7 := ⟨me_X7_isFlipping, z_in 990 (by decide +kernel) (by decide +kernel), z_in 43 (by decide +kernel) (by decide +kernel), _, _, rfl⟩
abbrev mX7_isListed : zM := (yX7_isListed, cX7_isListed, 4, (some .boolean))
theorem co_X7_isListed : zcode mX7_isListed ∈ zT := z_in 987 (by decide +kernel) (by decide +kernel)
theorem me_X7_isListed : zMe mX7_isListed 1 := ⟨co_X7_isListed, ini_RX7, by decide +kernel, by decide +kernel, by decide +kernel⟩
theorem mv_X7_isListed : zMv mX7_isListed 1 7 := ⟨me_X7_isListed, z_in 986 (by decide +kernel) (by decide +kernel), z_in 42 (by decide +kernel) (by decide +kernel), _, _, rfl⟩
abbrev mX7_isNothing : zM := (yX7_isNothing, cX7_isNothing, 3, (some .int))
theorem co_X7_isNothing : zcode mX7_isNothing ∈ zT := z_in 979 (by decide +kernel) (by decide +kernel)
theorem me_X7_isNothing : zMe mX7_isNothing 0 := ⟨co_X7_isNothing, ini_RX7, by decide +kernel, by decide +kernel, by decide +kernel⟩
theorem mv_X7_isNothing : zMv mX7_isNothing 0 7 := ⟨me_X7_isNothing, z_in 978 (by decide +kernel) (by decide +kernel), z_in 40 (by decide +kernel) (by decide +kernel), _, _, rfl⟩
abbrev mX7_isRow : zM := (yX7_isRow, cX7_isRow, 3, (some .boolean))
theorem co_X7_isRow : zcode mX7_isRow ∈ zT := z_in 943 (by decide +kernel) (by decide +kernel)
theorem me_X7_isRow : zMe mX7_isRow 3 := ⟨co_X7_isRow, ini_RX7, by decide +kernel, by decide +kernel, by decide +kernel⟩
theorem ms_X7_isRow : zMs mX7_isRow 3 := ⟨me_X7_isRow, z_in 942 (by decide +kernel) (by decide +kernel)⟩
abbrev mX7_isState : zM := (yX7_isState, cX7_isState, 2, (some .boolean))
theorem co_X7_isState : zcode mX7_isState ∈ zT := z_in 865 (by decide +kernel) (by decide +kernel)
theorem me_X7_isState : zMe mX7_isState 1 := ⟨co_X7_isState, ini_RX7, by decide +kernel, by decide +kernel, by decide +kernel⟩
theorem mv_X7_isState : zMv mX7_isState 1 7 := ⟨me_X7_isState, z_in 864 (by decide +kernel) (by decide +kernel), z_in 23 (by decide +kernel) (by decide +kernel), _, _, rfl⟩
abbrev mX7_isSuch : zM := (yX7_isSuch, cX7_isSuch, 2, (some .boolean))
theorem co_X7_isSuch : zcode mX7_isSuch ∈ zT := z_in 929 (by decide +kernel) (by decide +kernel)
theorem me_X7_isSuch : zMe mX7_isSuch 2 := ⟨co_X7_isSuch, ini_RX7, by decide +kernel, by decide +kernel, by decide +kernel⟩
theorem ms_X7_isSuch : zMs mX7_isSuch 2 := ⟨me_X7_isSuch, z_in 928 (by decide +kernel) (by decide +kernel)⟩
abbrev mX7_isWord : zM := (yX7_isWord, cX7_isWord, 2, (some .boolean))
theorem co_X7_isWord : zcode mX7_isWord ∈ zT := z_in 841 (by decide +kernel) (by decide +kernel)
theorem me_X7_isWord : zMe mX7_isWord 1 := ⟨co_X7_isWord, ini_RX7, by decide +kernel, by decide +kernel, by decide +kernel⟩
theorem mv_X7_isWord : zMv mX7_isWord 1 7 := ⟨me_X7_isWord, z_in 840 (by decide +kernel) (by decide +kernel), z_in 18 (by decide +kernel) (by decide +kernel), _, _, rfl⟩
abbrev mX7_keepMade : zM := (yX7_keepMade, cX7_keepMade, 3, (some .int))
theorem co_X7_keepMade : zcode mX7_keepMade ∈ zT := z_in 857 (by decide +kernel) (by decide +kernel)
theorem me_X7_keepMade : zMe mX7_keepMade 1 := ⟨co_X7_keepMade, ini_RX7, by decide +kernel, by decide +kernel, by decide +kernel⟩
theorem mv_X7_keepMade : zMv mX7_keepMade 1 7 := ⟨me_X7_keepMade, z_in 856 (by decide +kernel) (by decide +kernel), z_in 22 (by decide +kernel) (by decide +kernel), _, _, rfl⟩
abbrev mX7_kindBy : zM := (yX7_kindBy, cX7_kindBy, 1, (some .int))
theorem co_X7_kindBy : zcode mX7_kindBy ∈ zT := z_in 821 (by decide +kernel) (by decide +kernel)
theorem me_X7_kindBy : zMe mX7_kindBy 1 := ⟨co_X7_kindBy, ini_RX7, by decide +kernel, by decide +kernel, by decide +kernel⟩
theorem ms_X7_kindBy : zMs mX7_kindBy 1 := ⟨me_X7_kindBy, z_in 820 (by decide +kernel) (by decide +kernel)⟩
abbrev mX7_leastAlike : zM := (yX7_leastAlike, cX7_leastAlike, 3, (some .int))
theorem co_X7_leastAlike : zcode mX7_leastAlike ∈ zT := z_in 888 (by decide +kernel) (by decide +kernel)
theorem me_X7_leastAlike : zMe mX7_leastAlike 1 := ⟨co_X7_leastAlike, ini_RX7, by decide +kernel, by decide +kernel, by decide +kernel⟩
theorem mv_X7_leastAlike : zMv mX7_leastAlike 1 7 := ⟨me_X7_leastAlike, z_in 887 (by decide +kernel) (by decide +kernel), z_in 28 (by decide +kernel) (by decide +kernel), _, _, rfl⟩
abbrev mX7_letter : zM := (yX7_letter, cX7_letter, 2, (some .int))
theorem co_X7_letter : zcode mX7_letter ∈ zT := z_in 804 (by decide +kernel) (by decide +kernel)
theorem me_X7_letter : zMe mX7_letter 1 := ⟨co_X7_letter, ini_RX7, by decide +kernel, by decide +kernel, by decide +kernel⟩
theorem mv_X7_letter : zMv mX7_letter 1 7 := ⟨me_X7_letter, z_in 802 (by decide +kernel) (by decide +kernel), z_in 803 (by decide +kernel) (by decide +kernel), _, _, rfl⟩
abbrev mX7_letterOf : zM := (yX7_letterOf, cX7_letterOf, 2, (some .int))
theorem co_X7_letterOf : zcode mX7_letterOf ∈ zT := z_in 845 (by decide +kernel) (by decide +kernel)
theorem me_X7_letterOf : zMe mX7_letterOf 1 := ⟨co_X7_letterOf, ini_RX7, by decide +kernel, by decide +kernel, by decide +kernel⟩
theorem mv_X7_letterOf : zMv mX7_letterOf 1 7 := ⟨me_X7_letterOf, z_in 844 (by decide +kernel) (by decide +kernel), z_in 19 (by decide +kernel) (by decide +kernel), _, _, rfl⟩
abbrev mX7_letterOn : zM := (yX7_letterOn, cX7_letterOn, 6, (some .int))
theorem co_X7_letterOn : zcode mX7_letterOn ∈ zT := z_in 904 (by decide +kernel) (by decide +kernel)
theorem me_X7_letterOn : zMe mX7_letterOn 2 := ⟨co_X7_letterOn, ini_RX7, by decide +kernel, by decide +kernel, by decide +kernel⟩
theorem mv_X7_letterOn : zMv mX7_letterOn 2 7 := ⟨me_X7_letterOn, z_in 903 (by decide +kernel) (by decide +kernel), z_in 32 (by decide +kernel) (by decide +kernel), _, _, rfl⟩
abbrev mX7_machine : zM := (yX7_machine, cX7_machine, 3, (some .int))
theorem co_X7_machine : zcode mX7_machine ∈ zT := z_in 825 (by decide +kernel) (by decide +kernel)
theorem me_X7_machine : zMe mX7_machine 0 := ⟨co_X7_machine, ini_RX7, by decide +kernel, by decide +kernel, by decide +kernel⟩
theorem mv_X7_machine : zMv mX7_machine 0 7 := ⟨me_X7_machine, z_in 823 (by decide +kernel) (by decide +kernel), z_in 824 (by decide +kernel) (by decide +kernel), _, _, rfl⟩
abbrev mX7_makeSection : zM := (yX7_makeSection, cX7_makeSection, 7, none)
theorem co_X7_makeSection : zcode mX7_makeSection ∈ zT := z_in 995 (by decide +kernel) (by decide +kernel)
theorem me_X7_makeSection : zMe mX7_makeSection 2 := ⟨co_X7_makeSection, ini_RX7, by decide +kernel, by decide +kernel, by decide +kernel⟩
theorem mv_X7_makeSection : zMv mX7_makeSection 2 7 := ⟨me_X7_makeSection, z_in 994 (by decide +kernel) (by decide +kernel), z_in 44 (by decide +kernel) (by decide +kernel), _, _, rfl⟩
abbrev mX7_mix : zM := (yX7_mix, cX7_mix, 3, none)
theorem co_X7_mix : zcode mX7_mix ∈ zT := z_in 1091 (by decide +kernel) (by decide +kernel)
theorem me_X7_mix : zMe mX7_mix 1 := ⟨co_X7_mix, ini_RX7, by decide +kernel, by decide +kernel, by decide +kernel⟩
theorem mv_X7_mix : zMv mX7_mix 1 7 := ⟨me_X7_mix, z_in 1090 (by decide +kernel) (by decide +kernel), z_in 52 (by decide +kernel) (by decide +kernel), _, _, rfl⟩
abbrev mX7_mixWord : zM := (yX7_mixWord, cX7_mixWord, 3, none)
theorem co_X7_mixWord : zcode mX7_mixWord ∈ zT := z_in 1096 (by decide +kernel) (by decide +kernel)
theorem me_X7_mixWord : zMe mX7_mixWord 1 := ⟨co_X7_mixWord, ini_RX7, by decide +kernel, by decide +kernel, by decide +kernel⟩
theorem mv_X7_mixWord : zMv mX7_mixWord 1 7 := ⟨me_X7_mixWord, z_in 1095 (by decide +kernel) (by decide +kernel), z_in 53 (by decide +kernel) (by decide +kernel), _, _, rfl⟩
abbrev mX7_nextOf : zM := (yX7_nextOf, cX7_nextOf, 5, (some .int))
theorem co_X7_nextOf : zcode mX7_nextOf ∈ zT := z_in 877 (by decide +kernel) (by decide +kernel)
theorem me_X7_nextOf : zMe mX7_nextOf 1 := ⟨co_X7_nextOf, ini_RX7, by decide +kernel, by decide +kernel, by decide +kernel⟩
theorem mv_X7_nextOf : zMv mX7_nextOf 1 7 := ⟨me_X7_nextOf, z_in 876 (by decide +kernel) (by decide +kernel), z_in 26 (by decide +kernel) (by decide +kernel), _, _, rfl⟩
abbrev mX7_nothing : zM := (yX7_nothing, cX7_nothing, 2, (some .int))
theorem co_X7_nothing : zcode mX7_nothing ∈ zT := z_in 967 (by decide +kernel) (by decide +kernel)
theorem me_X7_nothing : zMe mX7_nothing 1 := ⟨co_X7_nothing, ini_RX7, by decide +kernel, by decide +kernel, by decide +kernel⟩
theorem mv_X7_nothing : zMv mX7_nothing 1 7 := ⟨me_X7_nothing, z_in 965 (by decide +kernel) (by decide +kernel), z_in 966 (by decide +kernel) (by decide +kernel), _, _, rfl⟩
abbrev mX7_nothingOf : zM := (yX7_nothingOf, cX7_nothingOf, 2, (some .int))
theorem co_X7_nothingOf : zcode mX7_nothingOf ∈ zT := z_in 971 (by decide +kernel) (by decide +kernel)
theorem me_X7_nothingOf : zMe mX7_nothingOf 1 := ⟨co_X7_nothingOf, ini_RX7, by decide +kernel, by decide +kernel, by decide +kernel⟩
theorem mv_X7_nothingOf : zMv mX7_nothingOf 1 7 := ⟨me_X7_nothingOf, z_in 970 (by decide +kernel) (by decide +kernel), z_in 38 (by decide +kernel) (by decide +kernel), _, _, rfl⟩
abbrev mX7_order : zM := (yX7_order, cX7_order, 2, (some .int))
theorem co_X7_order : zcode mX7_order ∈ zT := z_in 1007 (by decide +kernel) (by decide +kernel)
theorem me_X7_order : zMe mX7_order 1 := ⟨co_X7_order, ini_RX7, by decide +kernel, by decide +kernel, by decide +kernel⟩
theorem mv_X7_order : zMv mX7_order 1 7 := ⟨me_X7_order, z_in 1005 (by decide +kernel) (by decide +kernel), z_in 1006 (by decide +kernel) (by decide +kernel), _, _, rfl⟩
abbrev mX7_orderOf : zM := (yX7_orderOf, cX7_orderOf, 4, (some .int))
theorem co_X7_orderOf : zcode mX7_orderOf ∈ zT := z_in 1011 (by decide +kernel) (by decide +kernel)
theorem me_X7_orderOf : zMe mX7_orderOf 1 := ⟨co_X7_orderOf, ini_RX7, by decide +kernel, by decide +kernel, by decide +kernel⟩
theorem mv_X7_orderOf : zMv mX7_orderOf 1 7 := ⟨me_X7_orderOf, z_in 1010 (by decide +kernel) (by decide +kernel), z_in 46 (by decide +kernel) (by decide +kernel), _, _, rfl⟩
abbrev mX7_reach : zM := (yX7_reach, cX7_reach, 5, (some .int))
theorem co_X7_reach : zcode mX7_reach ∈ zT := z_in 873 (by decide +kernel) (by decide +kernel)
theorem me_X7_reach : zMe mX7_reach 1 := ⟨co_X7_reach, ini_RX7, by decide +kernel, by decide +kernel, by decide +kernel⟩
theorem mv_X7_reach : zMv mX7_reach 1 7 := ⟨me_X7_reach, z_in 872 (by decide +kernel) (by decide +kernel), z_in 25 (by decide +kernel) (by decide +kernel), _, _, rfl⟩
abbrev mX7_restore : zM := (yX7_restore, cX7_restore, 2, (some .int))
theorem co_X7_restore : zcode mX7_restore ∈ zT := z_in 1066 (by decide +kernel) (by decide +kernel)
theorem me_X7_restore : zMe mX7_restore 0 := ⟨co_X7_restore, ini_RX7, by decide +kernel, by decide +kernel, by decide +kernel⟩
theorem mv_X7_restore : zMv mX7_restore 0 7 := ⟨me_X7_restore, z_in 1064 (by decide +kernel) (by decide +kernel), z_in 1065 (by decide +kernel) (by decide +kernel), _, _, rfl⟩
abbrev mX7_round : zM := (yX7_round, cX7_round, 4, (some .int))
theorem co_X7_round : zcode mX7_round ∈ zT := z_in 959 (by decide +kernel) (by decide +kernel)
theorem me_X7_round : zMe mX7_round 3 := ⟨co_X7_round, ini_RX7, by decide +kernel, by decide +kernel, by decide +kernel⟩
theorem mv_X7_round : zMv mX7_round 3 7 := ⟨me_X7_round, z_in 957 (by decide +kernel) (by decide +kernel), z_in 958 (by decide +kernel) (by decide +kernel), _, _, rfl⟩
abbrev mX7_roundOf : zM := (yX7_roundOf, cX7_roundOf, 6, (some .int))
theorem co_X7_roundOf : zcode mX7_roundOf ∈ zT := z_in 963 (by decide +kernel) (by decide +kernel)
theorem me_X7_roundOf : zMe mX7_roundOf 3 := ⟨co_X7_roundOf, ini_RX7, by decide +kernel, by decide +kernel, by decide +kernel⟩
theorem mv_X7_roundOf : zMv mX7_roundOf 3 7 := ⟨me_X7_roundOf, z_in 962 (by decide +kernel) (by decide +kernel), z_in 37 (by decide +kernel) (by decide +kernel), _, _, rfl⟩
abbrev mX7_section : zM := (yX7_section, cX7_section, 4, (some .int))
theorem co_X7_section : zcode mX7_section ∈ zT := z_in 1023 (by decide +kernel) (by decide +kernel)
theorem me_X7_section : zMe mX7_section 3 := ⟨co_X7_section, ini_RX7, by decide +kernel, by decide +kernel, by decide +kernel⟩
theorem mv_X7_section : zMv mX7_section 3 7 := ⟨me_X7_section, z_in 1021 (by decide +kernel) (by decide +kernel), z_in 1022 (by decide +kernel) (by decide +kernel), _, _, rfl⟩
abbrev mX7_see : zM := (yX7_see, cX7_see, 4, (some .int))
theorem co_X7_see : zcode mX7_see ∈ zT := z_in 1035 (by decide +kernel) (by decide +kernel)
theorem me_X7_see : zMe mX7_see 3 := ⟨co_X7_see, ini_RX7, by decide +kernel, by decide +kernel, by decide +kernel⟩
theorem mv_X7_see : zMv mX7_see 3 7 := ⟨me_X7_see, z_in 1033 (by decide +kernel) (by decide +kernel), z_in 1034 (by decide +kernel) (by decide +kernel), _, _, rfl⟩
abbrev mX7_sign : zM := (yX7_sign, cX7_sign, 3, (some .int))
theorem co_X7_sign : zcode mX7_sign ∈ zT := z_in 933 (by decide +kernel) (by decide +kernel)
theorem me_X7_sign : zMe mX7_sign 2 := ⟨co_X7_sign, ini_RX7, by decide +kernel, by decide +kernel, by decide +kernel⟩
theorem mv_X7_sign : zMv mX7_sign 2 7 := ⟨me_X7_sign, z_in 931 (by decide +kernel) (by decide +kernel), z_in 932 (by decide +kernel) (by decide +kernel), _, _, rfl⟩
abbrev mX7_size : zM := (yX7_size, cX7_size, 3, (some .int))
theorem co_X7_size : zcode mX7_size ∈ zT := z_in 922 (by decide +kernel) (by decide +kernel)
theorem me_X7_size : zMe mX7_size 1 := ⟨co_X7_size, ini_RX7, by decide +kernel, by decide +kernel, by decide +kernel⟩
theorem ms_X7_size : zMs mX7_size 1 := ⟨me_X7_size, z_in 921 (by decide +kernel) (by decide +kernel)⟩
abbrev mX7_sorts : zM := (yX7_sorts, cX7_sorts, 6, (some .int))
theorem co_X7_sorts : zcode mX7_sorts ∈ zT := z_in 908 (by decide +kernel) (by decide +kernel)
theorem me_X7_sorts : zMe mX7_sorts 1 := ⟨co_X7_sorts, ini_RX7, by decide +kernel, by decide +kernel, by decide +kernel⟩
theorem mv_X7_sorts : zMv mX7_sorts 1 7 := ⟨me_X7_sorts, z_in 907 (by decide +kernel) (by decide +kernel), z_in 33 (by decide +kernel) (by decide +kernel), _, _, rfl⟩
abbrev mX7_state : zM := (yX7_state, cX7_state, 3, (some .int))
theorem co_X7_state : zcode mX7_state ∈ zT := z_in 861 (by decide +kernel) (by decide +kernel)
theorem me_X7_state : zMe mX7_state 2 := ⟨co_X7_state, ini_RX7, by decide +kernel, by decide +kernel, by decide +kernel⟩
theorem mv_X7_state : zMv mX7_state 2 7 := ⟨me_X7_state, z_in 859 (by decide +kernel) (by decide +kernel), z_in 860 (by decide +kernel) (by decide +kernel), _, _, rfl⟩
abbrev mX7_stateNow : zM := (yX7_stateNow, cX7_stateNow, 3, (some .int))
theorem co_X7_stateNow : zcode mX7_stateNow ∈ zT := z_in 869 (by decide +kernel) (by decide +kernel)
theorem me_X7_stateNow : zMe mX7_stateNow 2 := ⟨co_X7_stateNow, ini_RX7, by decide +kernel, by decide +kernel, by decide +kernel⟩
theorem mv_X7_stateNow : zMv mX7_stateNow 2 7 := ⟨me_X7_stateNow, z_in 868 (by decide +kernel) (by decide +kernel), z_in 24 (by decide +kernel) (by decide +kernel), _, _, rfl⟩
abbrev mX7_times : zM := (yX7_times, cX7_times, 4, (some .int))
theorem co_X7_times : zcode mX7_times ∈ zT := z_in 1015 (by decide +kernel) (by decide +kernel)
theorem me_X7_times : zMe mX7_times 3 := ⟨co_X7_times, ini_RX7, by decide +kernel, by decide +kernel, by decide +kernel⟩
theorem mv_X7_times : zMv mX7_times 3 7 := ⟨me_X7_times, z_in 1013 (by decide +kernel) (by decide +kernel), z_in 1014 (by decide +kernel) (by decide +kernel), _, _, rfl⟩
abbrev mX7_undo : zM := (yX7_undo, cX7_undo, 3, (some .int))
theorem co_X7_undo : zcode mX7_undo ∈ zT := z_in 1019 (by decide +kernel) (by decide +kernel)
theorem me_X7_undo : zMe mX7_undo 2 := ⟨co_X7_undo, ini_RX7, by decide +kernel, by decide +kernel, by decide +kernel⟩
theorem mv_X7_undo : zMv mX7_undo 2 7 := ⟨me_X7_undo, z_in 1017 (by decide +kernel) (by decide +kernel), z_in 1018 (by decide +kernel) (by decide +kernel), _, _, rfl⟩
abbrev mX7_withIt : zM := (yX7_withIt, cX7_withIt, 4, (some .int))
theorem co_X7_withIt : zcode mX7_withIt ∈ zT := z_in 919 (by decide +kernel) (by decide +kernel)
theorem me_X7_withIt : zMe mX7_withIt 2 := ⟨co_X7_withIt, ini_RX7, by decide +kernel, by decide +kernel, by decide +kernel⟩
theorem ms_X7_withIt : zMs mX7_withIt 2 := ⟨me_X7_withIt, z_in 918 (by decide +kernel) (by decide +kernel)⟩
abbrev mX7_within : zM := (yX7_within, cX7_within, 3, (some .boolean))
theorem co_X7_within : zcode mX7_within ∈ zT := z_in 807 (by decide +kernel) (by decide +kernel)
theorem me_X7_within : zMe mX7_within 3 := ⟨co_X7_within, ini_RX7, by decide +kernel, by decide +kernel, by decide +kernel⟩
theorem ms_X7_within : zMs mX7_within 3 := ⟨me_X7_within, z_in 806 (by decide +kernel) (by decide +kernel)⟩
abbrev mX7_word : zM := (yX7_word, cX7_word, 4, (some .int))
theorem co_X7_word : zcode mX7_word ∈ zT := z_in 837 (by decide +kernel) (by decide +kernel)
theorem me_X7_word : zMe mX7_word 1 := ⟨co_X7_word, ini_RX7, by decide +kernel, by decide +kernel, by decide +kernel⟩
theorem mv_X7_word : zMv mX7_word 1 7 := ⟨me_X7_word, z_in 835 (by decide +kernel) (by decide +kernel), z_in 836 (by decide +kernel) (by decide +kernel), _, _, rfl⟩
theorem lk_L_9 : Cond.methodLink RL 9 yX6_init ∈ zT := z_in 72 (by decide +kernel) (by decide +kernel)
theorem lk_X6_11 : Cond.methodLink RX6 11 yX2_init ∈ zT := z_in 80 (by decide +kernel) (by decide +kernel)
theorem lk_X6_18 : Cond.methodLink RX6 18 yX3_init ∈ zT := z_in 94 (by decide +kernel) (by decide +kernel)
theorem lk_X6_35 : Cond.methodLink RX6 35 yX1_init ∈ zT := z_in 117 (by decide +kernel) (by decide +kernel)
theorem lk_X1_9 : Cond.methodLink RX1 9 yJ9_max_7cf53 ∈ zT := z_in 121 (by decide +kernel) (by decide +kernel)
theorem lk_X6_40 : Cond.methodLink RX6 40 yX5_init ∈ zT := z_in 133 (by decide +kernel) (by decide +kernel)
theorem lk_X6_50 : Cond.methodLink RX6 50 yX4_init ∈ zT := z_in 146 (by decide +kernel) (by decide +kernel)
theorem lk_X4_20 : Cond.methodLink RX4 20 yX1_init ∈ zT := z_in 151 (by decide +kernel) (by decide +kernel)
theorem lk_X6_61 : Cond.methodLink RX6 61 yX0_init ∈ zT := z_in 171 (by decide +kernel) (by decide +kernel)
theorem lk_L_13 : Cond.methodLink RL 13 yX6_letter ∈ zT := z_in 216 (by decide +kernel) (by decide +kernel)
theorem lk_X6_74 : Cond.methodLink RX6 74 yX2_put ∈ zT := z_in 220 (by decide +kernel) (by decide +kernel)
theorem lk_X6_78 : Cond.methodLink RX6 78 yX2_size ∈ zT := z_in 224 (by decide +kernel) (by decide +kernel)
theorem lk_L_18 : Cond.methodLink RL 18 yX6_blank ∈ zT := z_in 228 (by decide +kernel) (by decide +kernel)
theorem lk_X6_82 : Cond.methodLink RX6 82 yX2_clear ∈ zT := z_in 232 (by decide +kernel) (by decide +kernel)
theorem lk_L_23 : Cond.methodLink RL 23 yX6_fault ∈ zT := z_in 236 (by decide +kernel) (by decide +kernel)
theorem lk_X6_85 : Cond.methodLink RX6 85 yX2_firstFault ∈ zT := z_in 240 (by decide +kernel) (by decide +kernel)
theorem lk_X2_19 : Cond.methodLink RX2 19 yX2_codeAt ∈ zT := z_in 244 (by decide +kernel) (by decide +kernel)
theorem lk_X2_23 : Cond.methodLink RX2 23 yX2_fits ∈ zT := z_in 248 (by decide +kernel) (by decide +kernel)
theorem lk_X2_38 : Cond.methodLink RX2 38 yX2_kindOfCode ∈ zT := z_in 251 (by decide +kernel) (by decide +kernel)
theorem lk_X2_47 : Cond.methodLink RX2 47 yJ0_length_8abf5 ∈ zT := z_in 255 (by decide +kernel) (by decide +kernel)
theorem lk_J0_335 : Cond.methodLink RJ0 335 yJ0_coder_7d493 ∈ zT := z_in 259 (by decide +kernel) (by decide +kernel)
theorem lk_X2_52 : Cond.methodLink RX2 52 yJ0_charAt_5068e ∈ zT := z_in 265 (by decide +kernel) (by decide +kernel)
theorem lk_J0_492 : Cond.methodLink RJ0 492 yJ0_isLatin1_aae02 ∈ zT := z_in 269 (by decide +kernel) (by decide +kernel)
theorem lk_J0_495 : Cond.methodLink RJ0 495 yJ1_charAt_3b067 ∈ zT := z_in 273 (by decide +kernel) (by decide +kernel)
theorem lk_J1_9 : Cond.methodLink RJ1 9 yJ0_checkIndex_df160 ∈ zT := z_in 276 (by decide +kernel) (by decide +kernel)
theorem lk_J0_1059 : Cond.methodLink RJ0 1059 yJ3_checkIndex_8e157 ∈ zT := z_in 281 (by decide +kernel) (by decide +kernel)
theorem lk_J0_498 : Cond.methodLink RJ0 498 yJ2_charAt_3b067 ∈ zT := z_in 284 (by decide +kernel) (by decide +kernel)
theorem lk_J2_67 : Cond.methodLink RJ2 67 yJ2_checkIndex_2214a ∈ zT := z_in 287 (by decide +kernel) (by decide +kernel)
theorem lk_J2_48 : Cond.methodLink RJ2 48 yJ2_length_9d52b ∈ zT := z_in 290 (by decide +kernel) (by decide +kernel)
theorem lk_J2_414 : Cond.methodLink RJ2 414 yJ0_checkIndex_df160 ∈ zT := z_in 293 (by decide +kernel) (by decide +kernel)
theorem lk_J2_71 : Cond.methodLink RJ2 71 yJ2_getChar_3b067 ∈ zT := z_in 294 (by decide +kernel) (by decide +kernel)
theorem lk_X2_41 : Cond.methodLink RX2 41 yX2_isDigit ∈ zT := z_in 303 (by decide +kernel) (by decide +kernel)
theorem lk_L_27 : Cond.methodLink RL 27 yX6_machine ∈ zT := z_in 307 (by decide +kernel) (by decide +kernel)
theorem lk_X6_88 : Cond.methodLink RX6 88 yX2_isMachine ∈ zT := z_in 311 (by decide +kernel) (by decide +kernel)
theorem lk_X2_27 : Cond.methodLink RX2 27 yX2_firstFault ∈ zT := z_in 315 (by decide +kernel) (by decide +kernel)
theorem lk_X2_31 : Cond.methodLink RX2 31 yX2_statesTold ∈ zT := z_in 316 (by decide +kernel) (by decide +kernel)
theorem lk_X2_34 : Cond.methodLink RX2 34 yX2_nextTold ∈ zT := z_in 320 (by decide +kernel) (by decide +kernel)
theorem lk_X6_92 : Cond.methodLink RX6 92 yX3_readFrom ∈ zT := z_in 324 (by decide +kernel) (by decide +kernel)
theorem lk_X3_28 : Cond.methodLink RX3 28 yX2_statesTold ∈ zT := z_in 328 (by decide +kernel) (by decide +kernel)
theorem lk_X3_34 : Cond.methodLink RX3 34 yJ9_min_7cf53 ∈ zT := z_in 329 (by decide +kernel) (by decide +kernel)
theorem lk_X3_40 : Cond.methodLink RX3 40 yX2_kindTold ∈ zT := z_in 332 (by decide +kernel) (by decide +kernel)
theorem lk_X3_44 : Cond.methodLink RX3 44 yX3_setKind ∈ zT := z_in 336 (by decide +kernel) (by decide +kernel)
theorem lk_X3_61 : Cond.methodLink RX3 61 yX3_has ∈ zT := z_in 340 (by decide +kernel) (by decide +kernel)
theorem lk_X3_48 : Cond.methodLink RX3 48 yX2_nextTold ∈ zT := z_in 344 (by decide +kernel) (by decide +kernel)
theorem lk_X3_51 : Cond.methodLink RX3 51 yX3_setNext ∈ zT := z_in 345 (by decide +kernel) (by decide +kernel)
theorem lk_X3_65 : Cond.methodLinkNest RX3 65 yX6_isSign RX6 ∈ zNW := z_inN 349 (by decide +kernel)
theorem lk_X6_96 : Cond.methodLink RX6 96 yX1_clear ∈ zT := z_in 352 (by decide +kernel) (by decide +kernel)
theorem lk_X6_97 : Cond.methodLink RX6 97 yX5_clear ∈ zT := z_in 356 (by decide +kernel) (by decide +kernel)
theorem lk_X6_98 : Cond.methodLink RX6 98 yX3_size ∈ zT := z_in 360 (by decide +kernel) (by decide +kernel)
theorem lk_L_31 : Cond.methodLink RL 31 yX6_word ∈ zT := z_in 364 (by decide +kernel) (by decide +kernel)
theorem lk_X6_99 : Cond.methodLink RX6 99 yX6_isActing ∈ zT := z_in 368 (by decide +kernel) (by decide +kernel)
theorem lk_X6_144 : Cond.methodLink RX6 144 yX6_isWord ∈ zT := z_in 372 (by decide +kernel) (by decide +kernel)
theorem lk_X6_102 : Cond.methodLink RX6 102 yX6_isWordOnPage ∈ zT := z_in 375 (by decide +kernel) (by decide +kernel)
theorem lk_X6_105 : Cond.methodLink RX6 105 yX2_codeAt ∈ zT := z_in 379 (by decide +kernel) (by decide +kernel)
theorem lk_X6_109 : Cond.methodLink RX6 109 yX6_letterOfCode ∈ zT := z_in 380 (by decide +kernel) (by decide +kernel)
theorem lk_X6_255 : Cond.methodLink RX6 255 yX6_letterOf ∈ zT := z_in 383 (by decide +kernel) (by decide +kernel)
theorem lk_X6_252 : Cond.methodLink RX6 252 yX6_stateOf ∈ zT := z_in 386 (by decide +kernel) (by decide +kernel)
theorem lk_X6_116 : Cond.methodLink RX6 116 yX3_has ∈ zT := z_in 389 (by decide +kernel) (by decide +kernel)
theorem lk_X6_112 : Cond.methodLink RX6 112 yX1_addReduced ∈ zT := z_in 390 (by decide +kernel) (by decide +kernel)
theorem lk_X1_25 : Cond.methodLink RX1 25 yX1_at ∈ zT := z_in 394 (by decide +kernel) (by decide +kernel)
theorem lk_X1_29 : Cond.methodLinkNest RX1 29 yX6_inverseOf RX6 ∈ zNW := z_inN 398 (by decide +kernel)
theorem lk_X1_32 : Cond.methodLink RX1 32 yX1_addAsIs ∈ zT := z_in 401 (by decide +kernel) (by decide +kernel)
theorem lk_X6_115 : Cond.methodLink RX6 115 yX1_size ∈ zT := z_in 405 (by decide +kernel) (by decide +kernel)
theorem lk_L_35 : Cond.methodLink RL 35 yX6_state ∈ zT := z_in 409 (by decide +kernel) (by decide +kernel)
theorem lk_X6_119 : Cond.methodLink RX6 119 yX3_kindOf ∈ zT := z_in 413 (by decide +kernel) (by decide +kernel)
theorem lk_X6_122 : Cond.methodLink RX6 122 yX3_toldNext ∈ zT := z_in 417 (by decide +kernel) (by decide +kernel)
theorem lk_X6_126 : Cond.methodLink RX6 126 yX3_reachOf ∈ zT := z_in 421 (by decide +kernel) (by decide +kernel)
theorem lk_X3_68 : Cond.methodLink RX3 68 yX3_nextsOf ∈ zT := z_in 425 (by decide +kernel) (by decide +kernel)
theorem lk_X3_71 : Cond.methodLink RX3 71 yX3_goesOn ∈ zT := z_in 429 (by decide +kernel) (by decide +kernel)
theorem lk_X6_129 : Cond.methodLink RX6 129 yX3_isInCore ∈ zT := z_in 433 (by decide +kernel) (by decide +kernel)
theorem lk_X3_74 : Cond.methodLink RX3 74 yX3_reachOf ∈ zT := z_in 437 (by decide +kernel) (by decide +kernel)
theorem lk_X6_132 : Cond.methodLink RX6 132 yX3_leastAlike ∈ zT := z_in 438 (by decide +kernel) (by decide +kernel)
theorem lk_X3_80 : Cond.methodLink RX3 80 yX3_findAlike ∈ zT := z_in 442 (by decide +kernel) (by decide +kernel)
theorem lk_X3_83 : Cond.methodLink RX3 83 yX3_leastThatSeemsAlike ∈ zT := z_in 446 (by decide +kernel) (by decide +kernel)
theorem lk_X3_86 : Cond.methodLink RX3 86 yX3_flipsFirst ∈ zT := z_in 450 (by decide +kernel) (by decide +kernel)
theorem lk_X3_89 : Cond.methodLink RX3 89 yX3_leastBehind ∈ zT := z_in 454 (by decide +kernel) (by decide +kernel)
theorem lk_X6_135 : Cond.methodLink RX6 135 yX5_sortsOf ∈ zT := z_in 461 (by decide +kernel) (by decide +kernel)
theorem lk_X6_138 : Cond.methodLink RX6 138 yX6_bestQuestion ∈ zT := z_in 465 (by decide +kernel) (by decide +kernel)
theorem lk_X6_262 : Cond.methodLink RX6 262 yJ6_bitCount_0f7a4 ∈ zT := z_in 470 (by decide +kernel) (by decide +kernel)
theorem lk_X6_267 : Cond.methodLink RX6 267 yJ9_max_7cf53 ∈ zT := z_in 476 (by decide +kernel) (by decide +kernel)
theorem lk_L_40 : Cond.methodLink RL 40 yX6_as ∈ zT := z_in 477 (by decide +kernel) (by decide +kernel)
theorem lk_X6_141 : Cond.methodLink RX6 141 yX6_isKind ∈ zT := z_in 481 (by decide +kernel) (by decide +kernel)
theorem lk_L_44 : Cond.methodLink RL 44 yX6_sign ∈ zT := z_in 484 (by decide +kernel) (by decide +kernel)
theorem lk_X6_147 : Cond.methodLink RX6 147 yX1_at ∈ zT := z_in 488 (by decide +kernel) (by decide +kernel)
theorem lk_X6_150 : Cond.methodLink RX6 150 yX6_codeOfLetter ∈ zT := z_in 489 (by decide +kernel) (by decide +kernel)
theorem lk_X6_272 : Cond.methodLink RX6 272 yX6_isInverse ∈ zT := z_in 492 (by decide +kernel) (by decide +kernel)
theorem lk_L_48 : Cond.methodLink RL 48 yX6_act ∈ zT := z_in 495 (by decide +kernel) (by decide +kernel)
theorem lk_X6_153 : Cond.methodLink RX6 153 yX6_isRow ∈ zT := z_in 499 (by decide +kernel) (by decide +kernel)
theorem lk_X6_157 : Cond.methodLink RX6 157 yX3_rowAfterWord ∈ zT := z_in 502 (by decide +kernel) (by decide +kernel)
theorem lk_X3_102 : Cond.methodLink RX3 102 yX1_size ∈ zT := z_in 506 (by decide +kernel) (by decide +kernel)
theorem lk_X3_106 : Cond.methodLink RX3 106 yX1_at ∈ zT := z_in 507 (by decide +kernel) (by decide +kernel)
theorem lk_X3_119 : Cond.methodLink RX3 119 yX3_rowAfterLetter ∈ zT := z_in 508 (by decide +kernel) (by decide +kernel)
theorem lk_X3_92 : Cond.methodLinkNest RX3 92 yX6_stateOf RX6 ∈ zNW := z_inN 512 (by decide +kernel)
theorem lk_X3_112 : Cond.methodLink RX3 112 yX3_letterBehind ∈ zT := z_in 513 (by decide +kernel) (by decide +kernel)
theorem lk_X3_95 : Cond.methodLinkNest RX3 95 yX6_isInverse RX6 ∈ zNW := z_inN 517 (by decide +kernel)
theorem lk_X3_98 : Cond.methodLinkNest RX3 98 yX6_letterOf RX6 ∈ zNW := z_inN 518 (by decide +kernel)
theorem lk_L_53 : Cond.methodLink RL 53 yX6_flips ∈ zT := z_in 519 (by decide +kernel) (by decide +kernel)
theorem lk_L_57 : Cond.methodLink RL 57 yX6_round ∈ zT := z_in 523 (by decide +kernel) (by decide +kernel)
theorem lk_L_61 : Cond.methodLink RL 61 yX6_nothing ∈ zT := z_in 527 (by decide +kernel) (by decide +kernel)
theorem lk_X6_161 : Cond.methodLink RX6 161 yX4_tellNothing ∈ zT := z_in 531 (by decide +kernel) (by decide +kernel)
theorem lk_X4_34 : Cond.methodLink RX4 34 yX4_find ∈ zT := z_in 535 (by decide +kernel) (by decide +kernel)
theorem lk_X4_51 : Cond.methodLink RX4 51 yX4_pack ∈ zT := z_in 539 (by decide +kernel) (by decide +kernel)
theorem lk_X4_64 : Cond.methodLink RX4 64 yX1_size ∈ zT := z_in 543 (by decide +kernel) (by decide +kernel)
theorem lk_X4_67 : Cond.methodLink RX4 67 yX1_at ∈ zT := z_in 544 (by decide +kernel) (by decide +kernel)
theorem lk_X4_54 : Cond.methodLink RX4 54 yX4_isPackedAt ∈ zT := z_in 545 (by decide +kernel) (by decide +kernel)
theorem lk_X4_38 : Cond.methodLink RX4 38 yX4_unpack ∈ zT := z_in 550 (by decide +kernel) (by decide +kernel)
theorem lk_X4_71 : Cond.methodLink RX4 71 yX1_clear ∈ zT := z_in 554 (by decide +kernel) (by decide +kernel)
theorem lk_X4_76 : Cond.methodLink RX4 76 yX1_addAsIs ∈ zT := z_in 556 (by decide +kernel) (by decide +kernel)
theorem lk_X4_41 : Cond.methodLink RX4 41 yX3_flipsFirstSign ∈ zT := z_in 557 (by decide +kernel) (by decide +kernel)
theorem lk_X4_47 : Cond.methodLink RX4 47 yX3_putSection ∈ zT := z_in 561 (by decide +kernel) (by decide +kernel)
theorem lk_X3_109 : Cond.methodLink RX3 109 yX1_clear ∈ zT := z_in 565 (by decide +kernel) (by decide +kernel)
theorem lk_X3_115 : Cond.methodLink RX3 115 yX1_addReduced ∈ zT := z_in 566 (by decide +kernel) (by decide +kernel)
theorem lk_L_65 : Cond.methodLink RL 65 yX6_alike ∈ zT := z_in 567 (by decide +kernel) (by decide +kernel)
theorem lk_X6_165 : Cond.methodLink RX6 165 yX1_copyFrom ∈ zT := z_in 571 (by decide +kernel) (by decide +kernel)
theorem lk_X6_169 : Cond.methodLink RX6 169 yX1_addUndone ∈ zT := z_in 575 (by decide +kernel) (by decide +kernel)
theorem lk_X1_36 : Cond.methodLink RX1 36 yX1_addReduced ∈ zT := z_in 579 (by decide +kernel) (by decide +kernel)
theorem lk_L_69 : Cond.methodLink RL 69 yX6_order ∈ zT := z_in 580 (by decide +kernel) (by decide +kernel)
theorem lk_X6_172 : Cond.methodLink RX6 172 yX1_addAll ∈ zT := z_in 584 (by decide +kernel) (by decide +kernel)
theorem lk_L_73 : Cond.methodLink RL 73 yX6_times ∈ zT := z_in 588 (by decide +kernel) (by decide +kernel)
theorem lk_L_77 : Cond.methodLink RL 77 yX6_undo ∈ zT := z_in 592 (by decide +kernel) (by decide +kernel)
theorem lk_L_81 : Cond.methodLink RL 81 yX6_section ∈ zT := z_in 596 (by decide +kernel) (by decide +kernel)
theorem lk_X6_175 : Cond.methodLink RX6 175 yX6_isSign ∈ zT := z_in 600 (by decide +kernel) (by decide +kernel)
theorem lk_X6_178 : Cond.methodLink RX6 178 yX3_putSection ∈ zT := z_in 601 (by decide +kernel) (by decide +kernel)
theorem lk_L_85 : Cond.methodLink RL 85 yX6_aim ∈ zT := z_in 602 (by decide +kernel) (by decide +kernel)
theorem lk_X6_182 : Cond.methodLink RX6 182 yX3_setNext ∈ zT := z_in 606 (by decide +kernel) (by decide +kernel)
theorem lk_L_89 : Cond.methodLink RL 89 yX6_change ∈ zT := z_in 607 (by decide +kernel) (by decide +kernel)
theorem lk_X6_186 : Cond.methodLink RX6 186 yX3_setKind ∈ zT := z_in 611 (by decide +kernel) (by decide +kernel)
theorem lk_L_93 : Cond.methodLink RL 93 yX6_see ∈ zT := z_in 612 (by decide +kernel) (by decide +kernel)
theorem lk_X6_190 : Cond.methodLink RX6 190 yX5_size ∈ zT := z_in 616 (by decide +kernel) (by decide +kernel)
theorem lk_X6_195 : Cond.methodLink RX6 195 yX5_add ∈ zT := z_in 620 (by decide +kernel) (by decide +kernel)
theorem lk_L_98 : Cond.methodLink RL 98 yX6_forget ∈ zT := z_in 624 (by decide +kernel) (by decide +kernel)
theorem lk_L_102 : Cond.methodLink RL 102 yX6_drawn ∈ zT := z_in 628 (by decide +kernel) (by decide +kernel)
theorem lk_X6_198 : Cond.methodLink RX6 198 yX0_startAt ∈ zT := z_in 632 (by decide +kernel) (by decide +kernel)
theorem lk_X6_201 : Cond.methodLink RX6 201 yX6_drawWordToScratch ∈ zT := z_in 636 (by decide +kernel) (by decide +kernel)
theorem lk_X6_204 : Cond.methodLink RX6 204 yX0_below ∈ zT := z_in 640 (by decide +kernel) (by decide +kernel)
theorem lk_X6_259 : Cond.methodLink RX6 259 yX1_addAsIs ∈ zT := z_in 648 (by decide +kernel) (by decide +kernel)
theorem lk_X6_207 : Cond.methodLink RX6 207 yX0_seedNow ∈ zT := z_in 649 (by decide +kernel) (by decide +kernel)
theorem lk_L_106 : Cond.methodLink RL 106 yX6_image ∈ zT := z_in 653 (by decide +kernel) (by decide +kernel)
theorem lk_X6_210 : Cond.methodLink RX6 210 yX3_copyFrom ∈ zT := z_in 657 (by decide +kernel) (by decide +kernel)
theorem lk_X6_213 : Cond.methodLink RX6 213 yX5_copyFrom ∈ zT := z_in 661 (by decide +kernel) (by decide +kernel)
theorem lk_L_110 : Cond.methodLink RL 110 yX6_restore ∈ zT := z_in 666 (by decide +kernel) (by decide +kernel)
theorem lk_L_114 : Cond.methodLink RL 114 yX6_count ∈ zT := z_in 670 (by decide +kernel) (by decide +kernel)
theorem lk_X6_216 : Cond.methodLink RX6 216 yX3_classes ∈ zT := z_in 674 (by decide +kernel) (by decide +kernel)
theorem lk_X6_219 : Cond.methodLink RX6 219 yX3_inCore ∈ zT := z_in 678 (by decide +kernel) (by decide +kernel)
theorem lk_X3_77 : Cond.methodLink RX3 77 yX3_isInCore ∈ zT := z_in 682 (by decide +kernel) (by decide +kernel)
theorem lk_X6_222 : Cond.methodLink RX6 222 yX6_lettersOfAllWords ∈ zT := z_in 683 (by decide +kernel) (by decide +kernel)
theorem lk_L_118 : Cond.methodLink RL 118 yX6_digest ∈ zT := z_in 687 (by decide +kernel) (by decide +kernel)
theorem lk_X6_229 : Cond.methodLink RX6 229 yX6_state ∈ zT := z_in 693 (by decide +kernel) (by decide +kernel)
theorem lk_X6_232 : Cond.methodLink RX6 232 yX6_digestOfWord ∈ zT := z_in 694 (by decide +kernel) (by decide +kernel)
theorem lk_X6_239 : Cond.methodLink RX6 239 yX6_sign ∈ zT := z_in 698 (by decide +kernel) (by decide +kernel)
theorem lk_X6_242 : Cond.methodLink RX6 242 yX6_nothing ∈ zT := z_in 699 (by decide +kernel) (by decide +kernel)
theorem lk_X6_245 : Cond.methodLink RX6 245 yX6_flips ∈ zT := z_in 700 (by decide +kernel) (by decide +kernel)
theorem lk_X6_248 : Cond.methodLink RX6 248 yX6_act ∈ zT := z_in 701 (by decide +kernel) (by decide +kernel)
theorem lk_X6_236 : Cond.methodLink RX6 236 yX6_count ∈ zT := z_in 702 (by decide +kernel) (by decide +kernel)
theorem lk_L_12 : Cond.methodLink RL 12 yX7_init ∈ zT := z_in 705 (by decide +kernel) (by decide +kernel)
theorem lk_L_17 : Cond.methodLink RL 17 yX7_letter ∈ zT := z_in 801 (by decide +kernel) (by decide +kernel)
theorem lk_X7_69 : Cond.methodLink RX7 69 yX7_within ∈ zT := z_in 805 (by decide +kernel) (by decide +kernel)
theorem lk_L_22 : Cond.methodLink RL 22 yX7_blank ∈ zT := z_in 808 (by decide +kernel) (by decide +kernel)
theorem lk_L_26 : Cond.methodLink RL 26 yX7_fault ∈ zT := z_in 812 (by decide +kernel) (by decide +kernel)
theorem lk_X7_81 : Cond.methodLink RX7 81 yX7_fitsAt ∈ zT := z_in 816 (by decide +kernel) (by decide +kernel)
theorem lk_X7_77 : Cond.methodLink RX7 77 yX7_kindBy ∈ zT := z_in 819 (by decide +kernel) (by decide +kernel)
theorem lk_L_30 : Cond.methodLink RL 30 yX7_machine ∈ zT := z_in 822 (by decide +kernel) (by decide +kernel)
theorem lk_X7_88 : Cond.methodLink RX7 88 yX7_fault ∈ zT := z_in 826 (by decide +kernel) (by decide +kernel)
theorem lk_X7_92 : Cond.methodLink RX7 92 yX7_isAimed ∈ zT := z_in 827 (by decide +kernel) (by decide +kernel)
theorem lk_X7_85 : Cond.methodLink RX7 85 yX7_aimOf ∈ zT := z_in 831 (by decide +kernel) (by decide +kernel)
theorem lk_L_34 : Cond.methodLink RL 34 yX7_word ∈ zT := z_in 834 (by decide +kernel) (by decide +kernel)
theorem lk_X7_112 : Cond.methodLink RX7 112 yX7_isWord ∈ zT := z_in 838 (by decide +kernel) (by decide +kernel)
theorem lk_X7_115 : Cond.methodLink RX7 115 yX7_letterOf ∈ zT := z_in 842 (by decide +kernel) (by decide +kernel)
theorem lk_X7_118 : Cond.methodLink RX7 118 yX7_begin ∈ zT := z_in 846 (by decide +kernel) (by decide +kernel)
theorem lk_X7_108 : Cond.methodLink RX7 108 yX7_comes ∈ zT := z_in 850 (by decide +kernel) (by decide +kernel)
theorem lk_X7_121 : Cond.methodLink RX7 121 yX7_keepMade ∈ zT := z_in 854 (by decide +kernel) (by decide +kernel)
theorem lk_L_39 : Cond.methodLink RL 39 yX7_state ∈ zT := z_in 858 (by decide +kernel) (by decide +kernel)
theorem lk_X7_169 : Cond.methodLink RX7 169 yX7_isState ∈ zT := z_in 862 (by decide +kernel) (by decide +kernel)
theorem lk_X7_172 : Cond.methodLink RX7 172 yX7_stateNow ∈ zT := z_in 866 (by decide +kernel) (by decide +kernel)
theorem lk_X7_160 : Cond.methodLink RX7 160 yX7_reach ∈ zT := z_in 870 (by decide +kernel) (by decide +kernel)
theorem lk_X7_141 : Cond.methodLink RX7 141 yX7_nextOf ∈ zT := z_in 874 (by decide +kernel) (by decide +kernel)
theorem lk_X7_127 : Cond.methodLink RX7 127 yX7_goesOn ∈ zT := z_in 878 (by decide +kernel) (by decide +kernel)
theorem lk_X7_144 : Cond.methodLink RX7 144 yX7_isBit ∈ zT := z_in 882 (by decide +kernel) (by decide +kernel)
theorem lk_X7_163 : Cond.methodLink RX7 163 yX7_leastAlike ∈ zT := z_in 885 (by decide +kernel) (by decide +kernel)
theorem lk_X7_138 : Cond.methodLink RX7 138 yX7_isAlike ∈ zT := z_in 889 (by decide +kernel) (by decide +kernel)
theorem lk_X7_134 : Cond.methodLink RX7 134 yX7_actLetter ∈ zT := z_in 893 (by decide +kernel) (by decide +kernel)
theorem lk_X7_124 : Cond.methodLink RX7 124 yX7_flipOf ∈ zT := z_in 897 (by decide +kernel) (by decide +kernel)
theorem lk_X7_131 : Cond.methodLink RX7 131 yX7_letterOn ∈ zT := z_in 901 (by decide +kernel) (by decide +kernel)
theorem lk_X7_150 : Cond.methodLink RX7 150 yX7_sorts ∈ zT := z_in 905 (by decide +kernel) (by decide +kernel)
theorem lk_X7_147 : Cond.methodLink RX7 147 yX7_could ∈ zT := z_in 909 (by decide +kernel) (by decide +kernel)
theorem lk_X7_166 : Cond.methodLink RX7 166 yX7_ask ∈ zT := z_in 912 (by decide +kernel) (by decide +kernel)
theorem lk_X7_154 : Cond.methodLink RX7 154 yX7_withIt ∈ zT := z_in 917 (by decide +kernel) (by decide +kernel)
theorem lk_X7_157 : Cond.methodLink RX7 157 yX7_size ∈ zT := z_in 920 (by decide +kernel) (by decide +kernel)
theorem lk_L_43 : Cond.methodLink RL 43 yX7_as ∈ zT := z_in 923 (by decide +kernel) (by decide +kernel)
theorem lk_X7_175 : Cond.methodLink RX7 175 yX7_isSuch ∈ zT := z_in 927 (by decide +kernel) (by decide +kernel)
theorem lk_L_47 : Cond.methodLink RL 47 yX7_sign ∈ zT := z_in 930 (by decide +kernel) (by decide +kernel)
theorem lk_X7_178 : Cond.methodLink RX7 178 yX7_codeOf ∈ zT := z_in 934 (by decide +kernel) (by decide +kernel)
theorem lk_L_52 : Cond.methodLink RL 52 yX7_act ∈ zT := z_in 937 (by decide +kernel) (by decide +kernel)
theorem lk_X7_181 : Cond.methodLink RX7 181 yX7_isRow ∈ zT := z_in 941 (by decide +kernel) (by decide +kernel)
theorem lk_X7_184 : Cond.methodLink RX7 184 yX7_actWord ∈ zT := z_in 944 (by decide +kernel) (by decide +kernel)
theorem lk_L_56 : Cond.methodLink RL 56 yX7_flips ∈ zT := z_in 948 (by decide +kernel) (by decide +kernel)
theorem lk_X7_187 : Cond.methodLink RX7 187 yX7_flipsOf ∈ zT := z_in 952 (by decide +kernel) (by decide +kernel)
theorem lk_L_60 : Cond.methodLink RL 60 yX7_round ∈ zT := z_in 956 (by decide +kernel) (by decide +kernel)
theorem lk_X7_190 : Cond.methodLink RX7 190 yX7_roundOf ∈ zT := z_in 960 (by decide +kernel) (by decide +kernel)
theorem lk_L_64 : Cond.methodLink RL 64 yX7_nothing ∈ zT := z_in 964 (by decide +kernel) (by decide +kernel)
theorem lk_X7_215 : Cond.methodLink RX7 215 yX7_nothingOf ∈ zT := z_in 968 (by decide +kernel) (by decide +kernel)
theorem lk_X7_209 : Cond.methodLink RX7 209 yX7_comesWord ∈ zT := z_in 972 (by decide +kernel) (by decide +kernel)
theorem lk_X7_212 : Cond.methodLink RX7 212 yX7_isNothing ∈ zT := z_in 976 (by decide +kernel) (by decide +kernel)
theorem lk_X7_199 : Cond.methodLink RX7 199 yX7_enlist ∈ zT := z_in 980 (by decide +kernel) (by decide +kernel)
theorem lk_X7_196 : Cond.methodLink RX7 196 yX7_isListed ∈ zT := z_in 984 (by decide +kernel) (by decide +kernel)
theorem lk_X7_202 : Cond.methodLink RX7 202 yX7_isFlipping ∈ zT := z_in 988 (by decide +kernel) (by decide +kernel)
theorem lk_X7_205 : Cond.methodLink RX7 205 yX7_makeSection ∈ zT := z_in 992 (by decide +kernel) (by decide +kernel)
theorem lk_L_68 : Cond.methodLink RL 68 yX7_alike ∈ zT := z_in 996 (by decide +kernel) (by decide +kernel)
theorem lk_X7_218 : Cond.methodLink RX7 218 yX7_comesInverse ∈ zT := z_in 1000 (by decide +kernel) (by decide +kernel)
theorem lk_L_72 : Cond.methodLink RL 72 yX7_order ∈ zT := z_in 1004 (by decide +kernel) (by decide +kernel)
theorem lk_X7_221 : Cond.methodLink RX7 221 yX7_orderOf ∈ zT := z_in 1008 (by decide +kernel) (by decide +kernel)
theorem lk_L_76 : Cond.methodLink RL 76 yX7_times ∈ zT := z_in 1012 (by decide +kernel) (by decide +kernel)
theorem lk_L_80 : Cond.methodLink RL 80 yX7_undo ∈ zT := z_in 1016 (by decide +kernel) (by decide +kernel)
theorem lk_L_84 : Cond.methodLink RL 84 yX7_section ∈ zT := z_in 1020 (by decide +kernel) (by decide +kernel)
theorem lk_L_88 : Cond.methodLink RL 88 yX7_aim ∈ zT := z_in 1024 (by decide +kernel) (by decide +kernel)
theorem lk_L_92 : Cond.methodLink RL 92 yX7_change ∈ zT := z_in 1028 (by decide +kernel) (by decide +kernel)
theorem lk_L_97 : Cond.methodLink RL 97 yX7_see ∈ zT := z_in 1032 (by decide +kernel) (by decide +kernel)
theorem lk_L_101 : Cond.methodLink RL 101 yX7_forget ∈ zT := z_in 1036 (by decide +kernel) (by decide +kernel)
theorem lk_L_105 : Cond.methodLink RL 105 yX7_drawn ∈ zT := z_in 1040 (by decide +kernel) (by decide +kernel)
theorem lk_X7_239 : Cond.methodLink RX7 239 yX7_drawnNow ∈ zT := z_in 1044 (by decide +kernel) (by decide +kernel)
theorem lk_X7_236 : Cond.methodLink RX7 236 yX7_drawOf ∈ zT := z_in 1048 (by decide +kernel) (by decide +kernel)
theorem lk_L_109 : Cond.methodLink RL 109 yX7_image ∈ zT := z_in 1056 (by decide +kernel) (by decide +kernel)
theorem lk_X7_251 : Cond.methodLink RX7 251 yX7_copy ∈ zT := z_in 1060 (by decide +kernel) (by decide +kernel)
theorem lk_L_113 : Cond.methodLink RL 113 yX7_restore ∈ zT := z_in 1063 (by decide +kernel) (by decide +kernel)
theorem lk_L_117 : Cond.methodLink RL 117 yX7_count ∈ zT := z_in 1067 (by decide +kernel) (by decide +kernel)
theorem lk_X7_261 : Cond.methodLink RX7 261 yX7_howMany ∈ zT := z_in 1071 (by decide +kernel) (by decide +kernel)
theorem lk_X7_255 : Cond.methodLink RX7 255 yX7_classes ∈ zT := z_in 1075 (by decide +kernel) (by decide +kernel)
theorem lk_X7_258 : Cond.methodLink RX7 258 yX7_core ∈ zT := z_in 1079 (by decide +kernel) (by decide +kernel)
theorem lk_L_122 : Cond.methodLink RL 122 yX7_digest ∈ zT := z_in 1083 (by decide +kernel) (by decide +kernel)
theorem lk_X7_269 : Cond.methodLink RX7 269 yX7_mix ∈ zT := z_in 1088 (by decide +kernel) (by decide +kernel)
theorem lk_X7_275 : Cond.methodLink RX7 275 yX7_mixWord ∈ zT := z_in 1093 (by decide +kernel) (by decide +kernel)
theorem iu_X0 : ∀ w ∈ u_ws RX0 TX0 1, w ∈ lw_tbl ∧ goodWord w = true := by decide +kernel
theorem iw_X0 : ∀ w ∈ u_ws RX0 TX0 1, w ∈ zT := fun w h => List.mem_filter.mpr (iu_X0 w h)
theorem iu_X1 : ∀ w ∈ u_ws RX1 TX1 2, w ∈ lw_tbl ∧ goodWord w = true := by decide +kernel
theorem iw_X1 : ∀ w ∈ u_ws RX1 TX1 2, w ∈ zT := fun w h => List.mem_filter.mpr (iu_X1 w h)
theorem iu_X2 : ∀ w ∈ u_ws RX2 TX2 2, w ∈ lw_tbl ∧ goodWord w = true := by decide +kernel
theorem iw_X2 : ∀ w ∈ u_ws RX2 TX2 2, w ∈ zT := fun w h => List.mem_filter.mpr (iu_X2 w h)
theorem iu_X3 : ∀ w ∈ u_ws RX3 TX3 5, w ∈ lw_tbl ∧ goodWord w = true := by decide +kernel
theorem iw_X3 : ∀ w ∈ u_ws RX3 TX3 5, w ∈ zT := fun w h => List.mem_filter.mpr (iu_X3 w h)
theorem iu_X4 : ∀ w ∈ u_ws RX4 TX4 5, w ∈ lw_tbl ∧ goodWord w = true := by decide +kernel
theorem iw_X4 : ∀ w ∈ u_ws RX4 TX4 5, w ∈ zT := fun w h => List.mem_filter.mpr (iu_X4 w h)
theorem iu_X5 : ∀ w ∈ u_ws RX5 TX5 2, w ∈ lw_tbl ∧ goodWord w = true := by decide +kernel
theorem iw_X5 : ∀ w ∈ u_ws RX5 TX5 2, w ∈ zT := fun w h => List.mem_filter.mpr (iu_X5 w h)
theorem iu_X6 : ∀ w ∈ u_ws RX6 TX6 12, w ∈ lw_tbl ∧ goodWord w = true := by decide +kernel
theorem iw_X6 : ∀ w ∈ u_ws RX6 TX6 12, w ∈ zT := fun w h => List.mem_filter.mpr (iu_X6 w h)
theorem iu_X7 : ∀ w ∈ u_ws RX7 TX7 30, w ∈ lw_tbl ∧ goodWord w = true := by decide +kernel
theorem iw_X7 : ∀ w ∈ u_ws RX7 TX7 30, w ∈ zT := fun w h => List.mem_filter.mpr (iu_X7 w h)
theorem fd_X2_9 : zFd RX2 9 2 0 := ⟨RX2, TX2, 2, rfl, by decide, z_in 84 (by decide +kernel) (by decide +kernel), iw_X2⟩
theorem fd_X2_15 : zFd RX2 15 2 1 := ⟨RX2, TX2, 2, rfl, by decide, z_in 85 (by decide +kernel) (by decide +kernel), iw_X2⟩
theorem fw_X2_15 : zFw RX2 15 2 1 .int := ⟨RX2, TX2, 2, tyX2, rfl, by decide, z_in 85 (by decide +kernel) (by decide +kernel), iw_X2, tyX2_ok, nmX2, by decide +kernel, by decide +kernel⟩
theorem fd_X3_9 : zFd RX3 9 3 0 := ⟨RX3, TX3, 5, rfl, by decide, z_in 98 (by decide +kernel) (by decide +kernel), iw_X3⟩
theorem fd_X3_15 : zFd RX3 15 3 1 := ⟨RX3, TX3, 5, rfl, by decide, z_in 99 (by decide +kernel) (by decide +kernel), iw_X3⟩
theorem fd_X3_18 : zFd RX3 18 3 2 := ⟨RX3, TX3, 5, rfl, by decide, z_in 100 (by decide +kernel) (by decide +kernel), iw_X3⟩
theorem fd_X3_21 : zFd RX3 21 3 3 := ⟨RX3, TX3, 5, rfl, by decide, z_in 101 (by decide +kernel) (by decide +kernel), iw_X3⟩
theorem fd_X3_24 : zFd RX3 24 3 4 := ⟨RX3, TX3, 5, rfl, by decide, z_in 102 (by decide +kernel) (by decide +kernel), iw_X3⟩
theorem fw_X3_24 : zFw RX3 24 3 4 .int := ⟨RX3, TX3, 5, tyX3, rfl, by decide, z_in 102 (by decide +kernel) (by decide +kernel), iw_X3, tyX3_ok, nmX3, by decide +kernel, by decide +kernel⟩
theorem fd_X1_15 : zFd RX1 15 1 0 := ⟨RX1, TX1, 2, rfl, by decide, z_in 124 (by decide +kernel) (by decide +kernel), iw_X1⟩
theorem fd_X1_21 : zFd RX1 21 1 1 := ⟨RX1, TX1, 2, rfl, by decide, z_in 125 (by decide +kernel) (by decide +kernel), iw_X1⟩
theorem fw_X1_21 : zFw RX1 21 1 1 .int := ⟨RX1, TX1, 2, tyX1, rfl, by decide, z_in 125 (by decide +kernel) (by decide +kernel), iw_X1, tyX1_ok, nmX1, by decide +kernel, by decide +kernel⟩
theorem fd_X5_9 : zFd RX5 9 5 0 := ⟨RX5, TX5, 2, rfl, by decide, z_in 137 (by decide +kernel) (by decide +kernel), iw_X5⟩
theorem fd_X5_15 : zFd RX5 15 5 1 := ⟨RX5, TX5, 2, rfl, by decide, z_in 138 (by decide +kernel) (by decide +kernel), iw_X5⟩
theorem fw_X5_15 : zFw RX5 15 5 1 .int := ⟨RX5, TX5, 2, tyX5, rfl, by decide, z_in 138 (by decide +kernel) (by decide +kernel), iw_X5, tyX5_ok, nmX5, by decide +kernel, by decide +kernel⟩
theorem fd_X4_9 : zFd RX4 9 4 0 := ⟨RX4, TX4, 5, rfl, by decide, z_in 152 (by decide +kernel) (by decide +kernel), iw_X4⟩
theorem fd_X4_15 : zFd RX4 15 4 1 := ⟨RX4, TX4, 5, rfl, by decide, z_in 153 (by decide +kernel) (by decide +kernel), iw_X4⟩
theorem fd_X4_23 : zFd RX4 23 4 2 := ⟨RX4, TX4, 5, rfl, by decide, z_in 154 (by decide +kernel) (by decide +kernel), iw_X4⟩
theorem fd_X4_27 : zFd RX4 27 4 3 := ⟨RX4, TX4, 5, rfl, by decide, z_in 155 (by decide +kernel) (by decide +kernel), iw_X4⟩
theorem fd_X4_30 : zFd RX4 30 4 4 := ⟨RX4, TX4, 5, rfl, by decide, z_in 156 (by decide +kernel) (by decide +kernel), iw_X4⟩
theorem fw_X4_30 : zFw RX4 30 4 4 .int := ⟨RX4, TX4, 5, tyX4, rfl, by decide, z_in 156 (by decide +kernel) (by decide +kernel), iw_X4, tyX4_ok, nmX4, by decide +kernel, by decide +kernel⟩
theorem fd_X0_7 : zFd RX0 7 0 0 := ⟨RX0, TX0, 1, rfl, by decide, z_in 175 (by decide +kernel) (by decide +kernel), iw_X0⟩
theorem fw_X0_7 : zFw RX0 7 0 0 .long := ⟨RX0, TX0, 1, tyX0, rfl, by decide, z_in 175 (by decide +kernel) (by decide +kernel), iw_X0, tyX0_ok, nmX0, by decide +kernel, by decide +kernel⟩
theorem fd_X6_12 : zFd RX6 12 6 0 := ⟨RX6, TX6, 12, rfl, by decide, z_in 179 (by decide +kernel) (by decide +kernel), iw_X6⟩
theorem fd_X6_19 : zFd RX6 19 6 1 := ⟨RX6, TX6, 12, rfl, by decide, z_in 180 (by decide +kernel) (by decide +kernel), iw_X6⟩
theorem fd_X6_23 : zFd RX6 23 6 2 := ⟨RX6, TX6, 12, rfl, by decide, z_in 181 (by decide +kernel) (by decide +kernel), iw_X6⟩
theorem fd_X6_28 : zFd RX6 28 6 3 := ⟨RX6, TX6, 12, rfl, by decide, z_in 182 (by decide +kernel) (by decide +kernel), iw_X6⟩
theorem fd_X6_32 : zFd RX6 32 6 4 := ⟨RX6, TX6, 12, rfl, by decide, z_in 183 (by decide +kernel) (by decide +kernel), iw_X6⟩
theorem fd_X6_41 : zFd RX6 41 6 5 := ⟨RX6, TX6, 12, rfl, by decide, z_in 184 (by decide +kernel) (by decide +kernel), iw_X6⟩
theorem fd_X6_45 : zFd RX6 45 6 6 := ⟨RX6, TX6, 12, rfl, by decide, z_in 185 (by decide +kernel) (by decide +kernel), iw_X6⟩
theorem fd_X6_51 : zFd RX6 51 6 7 := ⟨RX6, TX6, 12, rfl, by decide, z_in 186 (by decide +kernel) (by decide +kernel), iw_X6⟩
theorem fd_X6_55 : zFd RX6 55 6 8 := ⟨RX6, TX6, 12, rfl, by decide, z_in 187 (by decide +kernel) (by decide +kernel), iw_X6⟩
theorem fd_X6_62 : zFd RX6 62 6 9 := ⟨RX6, TX6, 12, rfl, by decide, z_in 188 (by decide +kernel) (by decide +kernel), iw_X6⟩
theorem fd_X6_66 : zFd RX6 66 6 10 := ⟨RX6, TX6, 12, rfl, by decide, z_in 189 (by decide +kernel) (by decide +kernel), iw_X6⟩
theorem fw_X6_66 : zFw RX6 66 6 10 .boolean := ⟨RX6, TX6, 12, tyX6, rfl, by decide, z_in 189 (by decide +kernel) (by decide +kernel), iw_X6, tyX6_ok, nmX6, by decide +kernel, by decide +kernel⟩
theorem fd_X6_70 : zFd RX6 70 6 11 := ⟨RX6, TX6, 12, rfl, by decide, z_in 190 (by decide +kernel) (by decide +kernel), iw_X6⟩
theorem fw_X6_70 : zFw RX6 70 6 11 .int := ⟨RX6, TX6, 12, tyX6, rfl, by decide, z_in 190 (by decide +kernel) (by decide +kernel), iw_X6, tyX6_ok, nmX6, by decide +kernel, by decide +kernel⟩
theorem fs_J0_38 : Cond.fieldLink RJ0 38 RJ0 "COMPACT_STRINGS" "Z" ∈ zT := z_in 263 (by decide +kernel) (by decide +kernel)
theorem fs_J0_1053 : Cond.fieldLink RJ0 1053 RJ3 "SIOOBE_FORMATTER" "Ljava/util/function/BiFunction;" ∈ zT := z_in 279 (by decide +kernel) (by decide +kernel)
theorem fs_J2_44 : Cond.fieldLink RJ2 44 RJ2 "$assertionsDisabled" "Z" ∈ zT := z_in 297 (by decide +kernel) (by decide +kernel)
theorem fs_J2_59 : Cond.fieldLink RJ2 59 RJ2 "HI_BYTE_SHIFT" "I" ∈ zT := z_in 299 (by decide +kernel) (by decide +kernel)
theorem fs_J2_63 : Cond.fieldLink RJ2 63 RJ2 "LO_BYTE_SHIFT" "I" ∈ zT := z_in 301 (by decide +kernel) (by decide +kernel)
theorem fs_X6_191 : Cond.fieldLink RX6 191 RX6 "SORTS_OF_YES" "[I" ∈ zT := z_in 468 (by decide +kernel) (by decide +kernel)
theorem fd_X7_96 : zFd RX7 96 7 0 := ⟨RX7, TX7, 30, rfl, by decide, z_in 709 (by decide +kernel) (by decide +kernel), iw_X7⟩
theorem fw_X7_96 : zFw RX7 96 7 0 .int := ⟨RX7, TX7, 30, tyX7, rfl, by decide, z_in 709 (by decide +kernel) (by decide +kernel), iw_X7, tyX7_ok, nmX7, by decide +kernel, by decide +kernel⟩
theorem fd_X7_7 : zFd RX7 7 7 1 := ⟨RX7, TX7, 30, rfl, by decide, z_in 710 (by decide +kernel) (by decide +kernel), iw_X7⟩
theorem fd_X7_13 : zFd RX7 13 7 2 := ⟨RX7, TX7, 30, rfl, by decide, z_in 711 (by decide +kernel) (by decide +kernel), iw_X7⟩
theorem fd_X7_102 : zFd RX7 102 7 3 := ⟨RX7, TX7, 30, rfl, by decide, z_in 712 (by decide +kernel) (by decide +kernel), iw_X7⟩
theorem fw_X7_102 : zFw RX7 102 7 3 .int := ⟨RX7, TX7, 30, tyX7, rfl, by decide, z_in 712 (by decide +kernel) (by decide +kernel), iw_X7, tyX7_ok, nmX7, by decide +kernel, by decide +kernel⟩
theorem fd_X7_16 : zFd RX7 16 7 4 := ⟨RX7, TX7, 30, rfl, by decide, z_in 713 (by decide +kernel) (by decide +kernel), iw_X7⟩
theorem fd_X7_19 : zFd RX7 19 7 5 := ⟨RX7, TX7, 30, rfl, by decide, z_in 714 (by decide +kernel) (by decide +kernel), iw_X7⟩
theorem fd_X7_99 : zFd RX7 99 7 6 := ⟨RX7, TX7, 30, rfl, by decide, z_in 715 (by decide +kernel) (by decide +kernel), iw_X7⟩
theorem fw_X7_99 : zFw RX7 99 7 6 .int := ⟨RX7, TX7, 30, tyX7, rfl, by decide, z_in 715 (by decide +kernel) (by decide +kernel), iw_X7, tyX7_ok, nmX7, by decide +kernel, by decide +kernel⟩
theorem fd_X7_22 : zFd RX7 22 7 7 := ⟨RX7, TX7, 30, rfl, by decide, z_in 716 (by decide +kernel) (by decide +kernel), iw_X7⟩
theorem fd_X7_25 : zFd RX7 25 7 8 := ⟨RX7, TX7, 30, rfl, by decide, z_in 717 (by decide +kernel) (by decide +kernel), iw_X7⟩
theorem fd_X7_28 : zFd RX7 28 7 9 := ⟨RX7, TX7, 30, rfl, by decide, z_in 718 (by decide +kernel) (by decide +kernel), iw_X7⟩
theorem fd_X7_73 : zFd RX7 73 7 10 := ⟨RX7, TX7, 30, rfl, by decide, z_in 719 (by decide +kernel) (by decide +kernel), iw_X7⟩
theorem fw_X7_73 : zFw RX7 73 7 10 .int := ⟨RX7, TX7, 30, tyX7, rfl, by decide, z_in 719 (by decide +kernel) (by decide +kernel), iw_X7, tyX7_ok, nmX7, by decide +kernel, by decide +kernel⟩
theorem fd_X7_32 : zFd RX7 32 7 11 := ⟨RX7, TX7, 30, rfl, by decide, z_in 720 (by decide +kernel) (by decide +kernel), iw_X7⟩
theorem fd_X7_105 : zFd RX7 105 7 12 := ⟨RX7, TX7, 30, rfl, by decide, z_in 721 (by decide +kernel) (by decide +kernel), iw_X7⟩
theorem fw_X7_105 : zFw RX7 105 7 12 .int := ⟨RX7, TX7, 30, tyX7, rfl, by decide, z_in 721 (by decide +kernel) (by decide +kernel), iw_X7, tyX7_ok, nmX7, by decide +kernel, by decide +kernel⟩
theorem fd_X7_35 : zFd RX7 35 7 13 := ⟨RX7, TX7, 30, rfl, by decide, z_in 722 (by decide +kernel) (by decide +kernel), iw_X7⟩
theorem fd_X7_193 : zFd RX7 193 7 14 := ⟨RX7, TX7, 30, rfl, by decide, z_in 723 (by decide +kernel) (by decide +kernel), iw_X7⟩
theorem fw_X7_193 : zFw RX7 193 7 14 .int := ⟨RX7, TX7, 30, tyX7, rfl, by decide, z_in 723 (by decide +kernel) (by decide +kernel), iw_X7, tyX7_ok, nmX7, by decide +kernel, by decide +kernel⟩
theorem fd_X7_38 : zFd RX7 38 7 15 := ⟨RX7, TX7, 30, rfl, by decide, z_in 724 (by decide +kernel) (by decide +kernel), iw_X7⟩
theorem fd_X7_41 : zFd RX7 41 7 16 := ⟨RX7, TX7, 30, rfl, by decide, z_in 725 (by decide +kernel) (by decide +kernel), iw_X7⟩
theorem fd_X7_226 : zFd RX7 226 7 17 := ⟨RX7, TX7, 30, rfl, by decide, z_in 726 (by decide +kernel) (by decide +kernel), iw_X7⟩
theorem fw_X7_226 : zFw RX7 226 7 17 .long := ⟨RX7, TX7, 30, tyX7, rfl, by decide, z_in 726 (by decide +kernel) (by decide +kernel), iw_X7, tyX7_ok, nmX7, by decide +kernel, by decide +kernel⟩
theorem fd_X7_45 : zFd RX7 45 7 18 := ⟨RX7, TX7, 30, rfl, by decide, z_in 727 (by decide +kernel) (by decide +kernel), iw_X7⟩
theorem fd_X7_242 : zFd RX7 242 7 19 := ⟨RX7, TX7, 30, rfl, by decide, z_in 728 (by decide +kernel) (by decide +kernel), iw_X7⟩
theorem fw_X7_242 : zFw RX7 242 7 19 .int := ⟨RX7, TX7, 30, tyX7, rfl, by decide, z_in 728 (by decide +kernel) (by decide +kernel), iw_X7, tyX7_ok, nmX7, by decide +kernel, by decide +kernel⟩
theorem fd_X7_245 : zFd RX7 245 7 20 := ⟨RX7, TX7, 30, rfl, by decide, z_in 729 (by decide +kernel) (by decide +kernel), iw_X7⟩
theorem fw_X7_245 : zFw RX7 245 7 20 .int := ⟨RX7, TX7, 30, tyX7, rfl, by decide, z_in 729 (by decide +kernel) (by decide +kernel), iw_X7, tyX7_ok, nmX7, by decide +kernel, by decide +kernel⟩
theorem fd_X7_248 : zFd RX7 248 7 21 := ⟨RX7, TX7, 30, rfl, by decide, z_in 730 (by decide +kernel) (by decide +kernel), iw_X7⟩
theorem fw_X7_248 : zFw RX7 248 7 21 .int := ⟨RX7, TX7, 30, tyX7, rfl, by decide, z_in 730 (by decide +kernel) (by decide +kernel), iw_X7, tyX7_ok, nmX7, by decide +kernel, by decide +kernel⟩
theorem fd_X7_48 : zFd RX7 48 7 22 := ⟨RX7, TX7, 30, rfl, by decide, z_in 731 (by decide +kernel) (by decide +kernel), iw_X7⟩
theorem fd_X7_51 : zFd RX7 51 7 23 := ⟨RX7, TX7, 30, rfl, by decide, z_in 732 (by decide +kernel) (by decide +kernel), iw_X7⟩
theorem fd_X7_54 : zFd RX7 54 7 24 := ⟨RX7, TX7, 30, rfl, by decide, z_in 733 (by decide +kernel) (by decide +kernel), iw_X7⟩
theorem fd_X7_57 : zFd RX7 57 7 25 := ⟨RX7, TX7, 30, rfl, by decide, z_in 734 (by decide +kernel) (by decide +kernel), iw_X7⟩
theorem fd_X7_60 : zFd RX7 60 7 26 := ⟨RX7, TX7, 30, rfl, by decide, z_in 735 (by decide +kernel) (by decide +kernel), iw_X7⟩
theorem fd_X7_63 : zFd RX7 63 7 27 := ⟨RX7, TX7, 30, rfl, by decide, z_in 736 (by decide +kernel) (by decide +kernel), iw_X7⟩
theorem fd_X7_66 : zFd RX7 66 7 28 := ⟨RX7, TX7, 30, rfl, by decide, z_in 737 (by decide +kernel) (by decide +kernel), iw_X7⟩
theorem fd_X7_266 : zFd RX7 266 7 29 := ⟨RX7, TX7, 30, rfl, by decide, z_in 738 (by decide +kernel) (by decide +kernel), iw_X7⟩
theorem fw_X7_266 : zFw RX7 266 7 29 .long := ⟨RX7, TX7, 30, tyX7, rfl, by decide, z_in 738 (by decide +kernel) (by decide +kernel), iw_X7, tyX7_ok, nmX7, by decide +kernel, by decide +kernel⟩
theorem fs_J0_9 : Cond.fieldLink RJ0 9 RJ0 "value" "[B" ∈ zT := z_in 1097 (by decide +kernel) (by decide +kernel)
theorem fs_J0_15 : Cond.fieldLink RJ0 15 RJ0 "coder" "B" ∈ zT := z_in 1098 (by decide +kernel) (by decide +kernel)
theorem kn_J6_265 : Cond.constant RJ6 265 (Int32.ofInt (1431655765)) ∈ zT := z_in 473 (by decide +kernel) (by decide +kernel)
theorem kn_J6_266 : Cond.constant RJ6 266 (Int32.ofInt (858993459)) ∈ zT := z_in 474 (by decide +kernel) (by decide +kernel)
theorem kn_J6_267 : Cond.constant RJ6 267 (Int32.ofInt (252645135)) ∈ zT := z_in 475 (by decide +kernel) (by decide +kernel)
theorem kn_X4_74 : Cond.constantLong RX4 74 (Int64.ofInt (15)) ∈ zT := z_in 555 (by decide +kernel) (by decide +kernel)
theorem kn_X0_13 : Cond.constantLong RX0 13 (Int64.ofInt (1103515245)) ∈ zT := z_in 644 (by decide +kernel) (by decide +kernel)
theorem kn_X0_15 : Cond.constantLong RX0 15 (Int64.ofInt (12345)) ∈ zT := z_in 645 (by decide +kernel) (by decide +kernel)
theorem kn_X0_17 : Cond.constantLong RX0 17 (Int64.ofInt (2147483647)) ∈ zT := z_in 646 (by decide +kernel) (by decide +kernel)
theorem kn_X0_19 : Cond.constantLong RX0 19 (Int64.ofInt (65536)) ∈ zT := z_in 647 (by decide +kernel) (by decide +kernel)
theorem kn_X6_225 : Cond.constantLong RX6 225 (Int64.ofInt (1471)) ∈ zT := z_in 691 (by decide +kernel) (by decide +kernel)
theorem kn_X6_227 : Cond.constantLong RX6 227 (Int64.ofInt (31)) ∈ zT := z_in 692 (by decide +kernel) (by decide +kernel)
theorem kn_X7_153 : Cond.constant RX7 153 (Int32.ofInt (268435456)) ∈ zT := z_in 916 (by decide +kernel) (by decide +kernel)
theorem kn_X7_224 : Cond.constantLong RX7 224 (Int64.ofInt (1103515245)) ∈ zT := z_in 1052 (by decide +kernel) (by decide +kernel)
theorem kn_X7_230 : Cond.constantLong RX7 230 (Int64.ofInt (12345)) ∈ zT := z_in 1053 (by decide +kernel) (by decide +kernel)
theorem kn_X7_232 : Cond.constantLong RX7 232 (Int64.ofInt (2147483648)) ∈ zT := z_in 1054 (by decide +kernel) (by decide +kernel)
theorem kn_X7_234 : Cond.constantLong RX7 234 (Int64.ofInt (65536)) ∈ zT := z_in 1055 (by decide +kernel) (by decide +kernel)
theorem kn_X7_273 : Cond.constantLong RX7 273 (Int64.ofInt (1471)) ∈ zT := z_in 1087 (by decide +kernel) (by decide +kernel)
theorem kn_X7_264 : Cond.constantLong RX7 264 (Int64.ofInt (31)) ∈ zT := z_in 1092 (by decide +kernel) (by decide +kernel)
end
section
/-! the whole store: 41 cells of the class, 20 of the reference; s: the numbers in a cell's fields, f: what an array holds -/
def XF (k : Nat) (s : Nat → Int) (f : Int → Int) : zC := match k with
  | 0 => zO 6 [zR 1, zR 3, zR 8, zR 13, zR 20, zR 27, zR 29, zR 31, zR 38, zR 40, zI (s 10), zI (s 11)]
  | 1 => zO 2 [zR 2, zI (s 1)]
  | 2 => zA 1 24 f
  | 3 => zO 3 [zR 4, zR 5, zR 6, zR 7, zI (s 4)]
  | 4 => zA 1 6 f
  | 5 => zA 1 12 f
  | 6 => zA 1 7 f
  | 7 => zA 1 7 f
  | 8 => zO 3 [zR 9, zR 10, zR 11, zR 12, zI (s 4)]
  | 9 => zA 1 6 f
  | 10 => zA 1 12 f
  | 11 => zA 1 7 f
  | 12 => zA 1 7 f
  | 13 => zA 4 3 (fun j => 14 + 2 * j)
  | 14 => zO 1 [zR 15, zI (s 1)]
  | 15 => zA 1 16 f
  | 16 => zO 1 [zR 17, zI (s 1)]
  | 17 => zA 1 16 f
  | 18 => zO 1 [zR 19, zI (s 1)]
  | 19 => zA 1 16 f
  | 20 => zA 4 3 (fun j => 21 + 2 * j)
  | 21 => zO 1 [zR 22, zI (s 1)]
  | 22 => zA 1 16 f
  | 23 => zO 1 [zR 24, zI (s 1)]
  | 24 => zA 1 16 f
  | 25 => zO 1 [zR 26, zI (s 1)]
  | 26 => zA 1 16 f
  | 27 => zO 5 [zR 28, zI (s 1)]
  | 28 => zA 1 6 f
  | 29 => zO 5 [zR 30, zI (s 1)]
  | 30 => zA 1 6 f
  | 31 => zO 4 [zR 32, zR 33, zR 34, zR 36, zI (s 4)]
  | 32 => zA 2 328 f
  | 33 => zA 2 8 f
  | 34 => zO 1 [zR 35, zI (s 1)]
  | 35 => zA 1 128 f
  | 36 => zO 1 [zR 37, zI (s 1)]
  | 37 => zA 1 128 f
  | 38 => zO 1 [zR 39, zI (s 1)]
  | 39 => zA 1 128 f
  | 40 => zO 0 [zL (s 0)]
  | 41 => zO 7 [zI (s 0), zR 42, zR 43, zI (s 3), zR 44, zR 45, zI (s 6), zR 46, zR 47, zR 48, zI (s 10), zR 49, zI (s 12), zR 50, zI (s 14), zR 51, zR 52, zL (s 17), zR 53, zI (s 19), zI (s 20), zI (s 21), zR 54, zR 55, zR 56, zR 57, zR 58, zR 59, zR 60, zL (s 29)]
  | 42 => zA 1 6 f
  | 43 => zA 1 12 f
  | 44 => zA 1 3 f
  | 45 => zA 1 48 f
  | 46 => zA 1 6 f
  | 47 => zA 1 6 f
  | 48 => zA 3 6 f
  | 49 => zA 1 24 f
  | 50 => zA 1 128 f
  | 51 => zA 1 41 f
  | 52 => zA 0 5248 f
  | 53 => zA 1 4 f
  | 54 => zA 1 6 f
  | 55 => zA 1 12 f
  | 56 => zA 1 3 f
  | 57 => zA 1 48 f
  | 58 => zA 1 6 f
  | 59 => zA 1 6 f
  | 60 => zA 3 6 f
  | _ => zA 99 0 (fun _ => 0)
abbrev zSz : Type := Nat → Nat → Int
abbrev zAr : Type := Nat → Int → Int
def X (sz : zSz) (ar : zAr) : zS := fun k => XF k (sz k) (ar k)
def zs (s : Nat → Int) (i : Nat) (x : Int) : Nat → Int := fun j => if j = i then x else s j
def zz (sz : zSz) (k i : Nat) (x : Int) : zSz := fun j => if j = k then zs (sz k) i x else sz j
def zq (ar : zAr) (k : Nat) (f : Int → Int) : zAr := fun j => if j = k then f else ar j
theorem X_J (sz : zSz) (ar : zAr) : zJ (X sz ar) := by
  intro k hk
  obtain ⟨j, rfl⟩ : ∃ j, k = j + 61 := ⟨k - 61, by have : zN = 61 := rfl; omega⟩
  rfl
theorem X_putS {sz : zSz} {ar : zAr} {k i : Nat} {x : Int} {c : zC} (h : c = XF k (zs (sz k) i x) (ar k)) : zu (X sz ar) k c = X (zz sz k i x) ar := by
  funext j
  by_cases hj : j = k
  · subst hj; simp [zu, X, zz, h]
  · simp [zu, X, zz, hj]
theorem X_putA {sz : zSz} {ar : zAr} {k : Nat} {f : Int → Int} {c : zC} (h : c = XF k (sz k) f) : zu (X sz ar) k c = X sz (zq ar k f) := by
  funext j
  by_cases hj : j = k
  · subst hj; simp [zu, X, zq, h]
  · simp [zu, X, zq, hj]
theorem zs_eq {s : Nat → Int} {i : Nat} {x : Int} : zs s i x i = x := if_pos rfl
theorem zs_ne {s : Nat → Int} {i j : Nat} {x : Int} (h : j ≠ i) : zs s i x j = s j := if_neg h
theorem zz_eq {sz : zSz} {k i : Nat} {x : Int} : zz sz k i x k i = x := by simp [zz, zs]
theorem zz_ne {sz : zSz} {k i j : Nat} {x : Int} (h : j ≠ k) : zz sz k i x j = sz j := if_neg h
theorem zz_ni {sz : zSz} {k i j : Nat} {x : Int} (h : j ≠ i) : zz sz k i x k j = sz k j := by simp [zz, zs, h]
theorem zq_eq {ar : zAr} {k : Nat} {f : Int → Int} : zq ar k f k = f := if_pos rfl
theorem zq_ne {ar : zAr} {k j : Nat} {f : Int → Int} (h : j ≠ k) : zq ar k f j = ar j := if_neg h
section ZX
variable {G : zG} {M : zM} {B : Room × Nat × Nat} {Q : List Frame → Array Value → State → State → Prop} {pc n : Nat} {L : List (Option zV)} {stk : List zV} {sz : zSz} {ar : zAr}
theorem z_putX {k ci i ix : Nat} {fs : List zV} {a : Int} (hd : decode M.2.1 pc = .ok (.putfield ix, 3)) (hn : pc + 3 = n) (hst : X sz ar k = zO ci fs) (hf : zFw M.1.cls ix ci i .int) (hi : i < fs.length) (hq : zO ci (fs.set i (zI a)) = XF k (zs (sz k) i a) (ar k)) (kk : zW G M B Q n L stk (X (zz sz k i a) ar)) : zW G M B Q pc L (zI a :: zR k :: stk) (X sz ar) :=
  z_put hd hn hst hf hi (by rw [X_putS hq]; exact kk)
theorem z_putLX {k ci i ix : Nat} {fs : List zV} {a : Int} (hd : decode M.2.1 pc = .ok (.putfield ix, 3)) (hn : pc + 3 = n) (hst : X sz ar k = zO ci fs) (hf : zFw M.1.cls ix ci i .long) (hi : i < fs.length) (hq : zO ci (fs.set i (zL a)) = XF k (zs (sz k) i a) (ar k)) (kk : zW G M B Q n L stk (X (zz sz k i a) ar)) : zW G M B Q pc L (zL a :: zR k :: stk) (X sz ar) :=
  z_putL hd hn hst hf hi (by rw [X_putS hq]; exact kk)
theorem z_putZX {k ci i ix : Nat} {fs : List zV} {a : Int} (hd : decode M.2.1 pc = .ok (.putfield ix, 3)) (hn : pc + 3 = n) (hst : X sz ar k = zO ci fs) (hf : zFw M.1.cls ix ci i .boolean) (ha : a = 0 ∨ a = 1) (hi : i < fs.length) (hq : zO ci (fs.set i (zI a)) = XF k (zs (sz k) i a) (ar k)) (kk : zW G M B Q n L stk (X (zz sz k i a) ar)) : zW G M B Q pc L (zI a :: zR k :: stk) (X sz ar) :=
  z_putZ hd hn hst hf ha hi (by rw [X_putS hq]; exact kk)
theorem z_iastX {k N : Nat} {i v : Int} (hd : decode M.2.1 pc = .ok (.iastore, 1)) (hn : pc + 1 = n) (hst : X sz ar k = zA 1 N (ar k)) (h0 : 0 ≤ i) (h1 : i < N) (h2 : N < 2147483648) (hq : zA 1 N (zf (ar k) i v) = XF k (sz k) (zf (ar k) i v)) (kk : zW G M B Q n L stk (X sz (zq ar k (zf (ar k) i v)))) : zW G M B Q pc L (zI v :: zI i :: zR k :: stk) (X sz ar) :=
  z_iast hd hn hst h0 h1 h2 (by rw [X_putA hq]; exact kk)
theorem z_lastX {k N : Nat} {i v : Int} (hd : decode M.2.1 pc = .ok (.lastore, 1)) (hn : pc + 1 = n) (hst : X sz ar k = zA 2 N (ar k)) (h0 : 0 ≤ i) (h1 : i < N) (h2 : N < 2147483648) (hq : zA 2 N (zf (ar k) i v) = XF k (sz k) (zf (ar k) i v)) (kk : zW G M B Q n L stk (X sz (zq ar k (zf (ar k) i v)))) : zW G M B Q pc L (zL v :: zI i :: zR k :: stk) (X sz ar) :=
  z_last hd hn hst h0 h1 h2 (by rw [X_putA hq]; exact kk)
theorem z_bastX {k N : Nat} {i v : Int} (hd : decode M.2.1 pc = .ok (.bastore, 1)) (hn : pc + 1 = n) (hst : X sz ar k = zA 0 N (ar k)) (h0 : 0 ≤ i) (h1 : i < N) (h2 : N < 2147483648) (h3 : -128 ≤ v) (h4 : v < 128) (hq : zA 0 N (zf (ar k) i v) = XF k (sz k) (zf (ar k) i v)) (kk : zW G M B Q n L stk (X sz (zq ar k (zf (ar k) i v)))) : zW G M B Q pc L (zI v :: zI i :: zR k :: stk) (X sz ar) :=
  z_bast hd hn hst h0 h1 h2 h3 h4 (by rw [X_putA hq]; exact kk)
theorem z_zastX {k N : Nat} {i v : Int} (hd : decode M.2.1 pc = .ok (.bastore, 1)) (hn : pc + 1 = n) (hst : X sz ar k = zA 3 N (ar k)) (h0 : 0 ≤ i) (h1 : i < N) (h2 : N < 2147483648) (h3 : v = 0 ∨ v = 1) (hq : zA 3 N (zf (ar k) i v) = XF k (sz k) (zf (ar k) i v)) (kk : zW G M B Q n L stk (X sz (zq ar k (zf (ar k) i v)))) : zW G M B Q pc L (zI v :: zI i :: zR k :: stk) (X sz ar) :=
  z_zast hd hn hst h0 h1 h2 h3 (by rw [X_putA hq]; exact kk)
theorem z_by {a : Int} {st : zS} (v : Int) (kt : a = v → zW G M B Q pc L (zI a :: stk) st) (kf : a ≠ v → zW G M B Q pc L (zI a :: stk) st) : zW G M B Q pc L (zI a :: stk) st := by
  by_cases h : a = v
  · exact kt h
  · exact kf h
theorem z_icmp_same {a off : Int} {tg : Nat} {st : zS} (hd : decode M.2.1 pc = .ok (.if_icmp .eq off, 3)) (ht : (pc : Int) + off = (tg : Int)) (k : zW G M B Q tg L stk st) : zW G M B Q pc L (zI a :: zI a :: stk) st := by
  intro p l e s m args below meth c H locs ls F J P S hl
  exact lv_icmp_eq F.1 F.2.1 hd ht (fun _ => k p l e s m args below meth c H locs ls F J P S hl) (fun h => absurd rfl h)
end ZX
theorem zrm {M' : zM} {d' d : Nat} (h : d' + 1 ≤ d) (h2 : M'.2.2.1 ≤ 21) : zroom M' d' (zRm d, 0, 0) := by
  refine ⟨h, ?_, Nat.le_refl _, Nat.le_refl _⟩
  show 8 + (M'.2.2.1 + 11) + 40 * d' ≤ 40 * d
  omega
/-- the rows of letters -/
def isL (k : Nat) : Prop := k = 14 ∨ k = 16 ∨ k = 18 ∨ k = 21 ∨ k = 23 ∨ k = 25 ∨ k = 34 ∨ k = 36 ∨ k = 38
def cap (k : Nat) : Nat := if k < 30 then 16 else 128
theorem XL1 {k : Nat} (h : isL k) {sz : zSz} {ar : zAr} : X sz ar k = zO 1 [zR (k + 1), zI (sz k 1)] := by
  rcases h with h | h | h | h | h | h | h | h | h <;> subst h <;> rfl
theorem XL2 {k : Nat} (h : isL k) {sz : zSz} {ar : zAr} : X sz ar (k + 1) = zA 1 (cap k) (ar (k + 1)) := by
  rcases h with h | h | h | h | h | h | h | h | h <;> subst h <;> rfl
theorem XL3 {k : Nat} (h : isL k) {sz : zSz} {ar : zAr} (x : Int) : zO 1 ([zR (k + 1), zI (sz k 1)].set 1 (zI x)) = XF k (zs (sz k) 1 x) (ar k) := by
  rcases h with h | h | h | h | h | h | h | h | h <;> subst h <;> rfl
theorem XL4 {k : Nat} (h : isL k) {sz : zSz} (f : Int → Int) : zA 1 (cap k) f = XF (k + 1) (sz (k + 1)) f := by
  rcases h with h | h | h | h | h | h | h | h | h <;> subst h <;> rfl
theorem cap_r (k : Nat) : (cap k : Nat) = 16 ∨ cap k = 128 := by unfold cap; split <;> simp
theorem isL_1 {k j : Nat} (h : isL k) (h2 : isL j) : k ≠ j + 1 := by unfold isL at *; omega
end
section
/-! words as lists of whole numbers -/
def inv (l : Int) : Int := zxor l 1
theorem inv_val {l : Int} (h : 0 ≤ l) : inv l = if l % 2 = 0 then l + 1 else l - 1 := by
  obtain ⟨x, rfl⟩ := Int.eq_ofNat_of_zero_le h
  unfold inv zxor
  have e : ((x : Int).toNat ^^^ (1 : Int).toNat) = x ^^^ 1 := rfl
  rw [e]
  have h2 : x ^^^ 1 = if x % 2 = 0 then x + 1 else x - 1 := by
    have h3 : (x ^^^ 1) / 2 = x / 2 := by
      have := Nat.xor_div_two_pow (a := x) (b := 1) (n := 1)
      simpa using this
    have h4 : (x ^^^ 1) % 2 = (x + 1) % 2 := by
      have := Nat.xor_mod_two_pow (a := x) (b := 1) (n := 1)
      simp at this
      rcases Nat.mod_two_eq_zero_or_one x with q | q
      · rw [this, q]; show (0 ^^^ 1 : Nat) = _; have e9 : (0 ^^^ 1 : Nat) = 1 := rfl; omega
      · rw [this, q]; show (1 ^^^ 1 : Nat) = _; have e9 : (1 ^^^ 1 : Nat) = 0 := rfl; omega
    split <;> omega
  rw [h2]
  split <;> split <;> omega
theorem inv_0 {l : Int} (h : 0 ≤ l) : 0 ≤ inv l := zxor_0 _ _
theorem inv_inv {l : Int} (h : 0 ≤ l) : inv (inv l) = l := by
  rw [inv_val (inv_0 h), inv_val h]
  split <;> split <;> omega
theorem inv_iff {a b : Int} (ha : 0 ≤ a) (hb : 0 ≤ b) : a = inv b ↔ inv a = b := ⟨fun h => by rw [h, inv_inv hb], fun h => by rw [← h, inv_inv ha]⟩
theorem inv_half {l : Int} (h : 0 ≤ l) : inv l / 2 = l / 2 := by
  rw [inv_val h]
  split <;> omega
theorem inv_lt {l n : Int} (h : 0 ≤ l) (h2 : l < 2 * n) : inv l < 2 * n := by
  rw [inv_val h]
  split <;> omega
/-- a letter comes behind a word -/
def red (xs : List Int) (l : Int) : List Int := if xs.getLast? = some (inv l) then xs.dropLast else xs ++ [l]
/-- an array holds a word -/
def LR (n : Int) (f : Int → Int) (xs : List Int) : Prop := n = xs.length ∧ ∀ i : Nat, i < xs.length → f i = xs.getD i 0
theorem LR.nil {f : Int → Int} : LR 0 f [] := ⟨rfl, fun i h => absurd h (Nat.not_lt_zero i)⟩
theorem LR.get {n : Int} {f : Int → Int} {xs : List Int} (h : LR n f xs) {i : Int} (h0 : 0 ≤ i) (h1 : i < n) : f i = xs.getD i.toNat 0 := by
  have h2 := h.2 i.toNat (by rw [h.1] at h1; omega)
  rwa [Int.toNat_of_nonneg h0] at h2
theorem LR.last {n : Int} {f : Int → Int} {xs : List Int} (h : LR n f xs) (h0 : 0 < n) : xs.getLast? = some (f (n - 1)) := by
  obtain ⟨h1, h2⟩ := h
  have hl : 0 < xs.length := by omega
  have e : n - 1 = ((xs.length - 1 : Nat) : Int) := by omega
  rw [e, h2 _ (by omega), List.getLast?_eq_getElem?, List.getD_eq_getElem?_getD]
  rw [List.getElem?_eq_getElem (by omega)]
  rfl
theorem LR.red1 {n l : Int} {f : Int → Int} {xs : List Int} (h : LR n f xs) (h0 : 0 < n) (e : f (n - 1) = inv l) : LR (n - 1) f (red xs l) := by
  have hl := h.last h0
  unfold red
  rw [if_pos (by rw [hl, e])]
  obtain ⟨h1, h2⟩ := h
  refine ⟨by rw [List.length_dropLast]; omega, fun i hi => ?_⟩
  rw [List.length_dropLast] at hi
  rw [h2 i (by omega), List.getD_eq_getElem?_getD, List.getD_eq_getElem?_getD, List.getElem?_dropLast, if_pos hi]
theorem LR.add {n l : Int} {f : Int → Int} {xs : List Int} (h : LR n f xs) : LR (n + 1) (zf f n l) (xs ++ [l]) := by
  obtain ⟨h1, h2⟩ := h
  refine ⟨by rw [List.length_append]; simp; omega, fun i hi => ?_⟩
  rw [List.length_append] at hi
  simp only [List.length_cons, List.length_nil] at hi
  by_cases hh : i < xs.length
  · rw [zf_ne (by omega), h2 i hh, List.getD_eq_getElem?_getD, List.getD_eq_getElem?_getD, List.getElem?_append_left hh]
  · have : i = xs.length := by omega
    subst this
    rw [h1, zf_eq, List.getD_eq_getElem?_getD, List.getElem?_append_right (Nat.le_refl _)]
    simp
theorem LR.red2 {n l : Int} {f : Int → Int} {xs : List Int} (h : LR n f xs) (e : n ≤ 0 ∨ f (n - 1) ≠ inv l) : LR (n + 1) (zf f n l) (red xs l) := by
  have hne : ¬ xs.getLast? = some (inv l) := by
    intro z
    by_cases h0 : 0 < n
    · rw [h.last h0] at z
      rcases e with e | e
      · omega
      · exact e (Option.some.inj z)
    · have : xs = [] := List.length_eq_zero_iff.mp (by have := h.1; omega)
      rw [this] at z
      cases z
  unfold red
  rw [if_neg hne]
  exact h.add
theorem red_len (xs : List Int) (l : Int) : (red xs l).length ≤ xs.length + 1 := by
  unfold red
  split
  · rw [List.length_dropLast]; omega
  · simp
theorem foldl_red_len (ls : List Int) : ∀ xs : List Int, (ls.foldl red xs).length ≤ xs.length + ls.length := by
  induction ls with
  | nil => intro xs; simp
  | cons a t ih =>
    intro xs
    have h1 := ih (red xs a)
    have h2 := red_len xs a
    simp only [List.foldl_cons, List.length_cons]
    omega
/-- only a row of letters has changed -/
def Fr (k : Nat) (sz : zSz) (ar : zAr) (sz' : zSz) (ar' : zAr) : Prop := (∀ j, j ≠ k → sz' j = sz j) ∧ (∀ j, j ≠ k + 1 → ar' j = ar j)
theorem Fr.rf {k : Nat} {sz : zSz} {ar : zAr} : Fr k sz ar sz ar := ⟨fun _ _ => rfl, fun _ _ => rfl⟩
theorem Fr.tr {k : Nat} {sz sz' sz'' : zSz} {ar ar' ar'' : zAr} (h : Fr k sz ar sz' ar') (h2 : Fr k sz' ar' sz'' ar'') : Fr k sz ar sz'' ar'' := ⟨fun j hj => (h2.1 j hj).trans (h.1 j hj), fun j hj => (h2.2 j hj).trans (h.2 j hj)⟩
/-- behind it the row k holds a word, and nothing else has changed -/
def zLP (k : Nat) (xs : List Int) (sz : zSz) (ar : zAr) (u : zS) : Prop := ∃ (sz' : zSz) (ar' : zAr), u = X sz' ar' ∧ LR (sz' k 1) (ar' (k + 1)) xs ∧ Fr k sz ar sz' ar'
end
section
/-! System.arraycopy -/
theorem ac_X3_55 : Cond.methodLink RX3 55 arraycopyName ∈ zT := z_in 458 (by decide +kernel) (by decide +kernel)
theorem ac_X4_58 : Cond.methodLink RX4 58 arraycopyName ∈ zT := z_in 549 (by decide +kernel) (by decide +kernel)
theorem ac_X5_19 : Cond.methodLink RX5 19 arraycopyName ∈ zT := z_in 665 (by decide +kernel) (by decide +kernel)
theorem ac_nat : Cond.native arraycopyName ∈ zT := z_in 460 (by decide +kernel) (by decide +kernel)
theorem ac_sta : Cond.static arraycopyName ∈ zT := z_in 459 (by decide +kernel) (by decide +kernel)
def zcp (f g : Int → Int) (sp dp n : Int) : Int → Int := fun j => if dp ≤ j ∧ j < dp + n then f (sp + (j - dp)) else g j
theorem zcp_va {α : Type} (T : Int → α) {f g : Int → Int} {sp dp n : Int} (h1 : 0 ≤ sp) (h2 : 0 ≤ dp) (h3 : 0 ≤ n) : va_cpy (fun j : Nat => T (f j)) (fun j : Nat => T (g j)) sp.toNat dp.toNat n.toNat = fun j : Nat => T (zcp f g sp dp n j) := by
  funext j
  unfold va_cpy zcp
  by_cases h : dp.toNat ≤ j ∧ j < dp.toNat + n.toNat
  · rw [if_pos h, if_pos (by omega)]
    have e : ((sp.toNat + (j - dp.toNat) : Nat) : Int) = sp + ((j : Int) - dp) := by omega
    show T (f ((sp.toNat + (j - dp.toNat) : Nat) : Int)) = _
    rw [e]
  · rw [if_neg h, if_neg (by omega)]
section ZAC
variable {G : zG} {M : zM} {B : Room × Nat × Nat} {Q : List Frame → Array Value → State → State → Prop} {pc n : Nat} {L : List (Option zV)} {stk : List zV} {sz : zSz} {ar : zAr}
theorem z_acopy {k0 k1 N0 N1 ix : Nat} {sp dp c : Int} (hd : decode M.2.1 pc = .ok (.invokestatic ix, 3)) (hn : pc + 3 = n) (hl : Cond.methodLink M.1.cls ix arraycopyName ∈ zT) (h0 : X sz ar k0 = zA 1 N0 (ar k0)) (h1 : X sz ar k1 = zA 1 N1 (ar k1)) (hq : ∀ f, zA 1 N1 f = XF k1 (sz k1) f) (g1 : 0 ≤ sp) (g2 : 0 ≤ dp) (g3 : 0 ≤ c) (g4 : sp + c ≤ N0) (g5 : dp + c ≤ N1) (g6 : N0 < 2147483648 ∧ N1 < 2147483648) (hr : 1 ≤ B.1.frames) (hr2 : (stk.map zcat).sum + 30 ≤ B.1.locals) (kk : zW G M B Q n L stk (X sz (zq ar k1 (zcp (ar k0) (ar k1) sp dp c)))) : zW G M B Q pc L (zI c :: zI dp :: zR k1 :: zI sp :: zR k0 :: stk) (X sz ar) := by
  intro p l e s m args below meth cd H locs ls F J P S hls
  have F' := F
  obtain ⟨hx, hb, hrt, hml, hown, hts, hlocks, hK, hI, hZ⟩ := F'
  subst hn
  have hw0 := zw_arr (G := G) J h0 (by decide)
  have hw1 := zw_arr (G := G) J h1 (by decide)
  rw [zcr1 _ (by decide) (by decide)] at hw0 hw1
  refine va_copyi hx hb (hml.trans hls.1.symm) hown (hts _ hl) (hts _ ac_nat) (hts _ ac_sta) (hts _ ini_RJ10) hK P (zw_D hI) S k0 k1 1 1 hw0 hw1 rfl rfl rfl (by rw [za_lt0 ⟨by omega, by omega⟩]; omega) (by rw [za_lt0 ⟨by omega, by omega⟩]; omega) (by rw [za_lt0 ⟨by omega, by omega⟩]; omega) (by rw [za_cl g1 (by omega), za_cl g3 (by omega)]; omega) (by rw [za_cl g2 (by omega), za_cl g3 (by omega)]; omega) (fun _ _ => rfl) hr (by rw [zcats]; exact Nat.le_trans (Nat.add_le_add_left (Nat.le_of_ble_eq_true rfl) _) hr2) hd (fun H1 locs1 P1 D1 S1 => ?_)
  refine kk p l e s m args below meth cd H1 locs1 ls F (X_J _ _) ?_ S1 hls
  rw [← X_putA (sz := sz) (hq _), ← zw_set (J.lta h1 (by decide))]
  have e2 : zcc G (zA 1 N1 (zcp (ar k0) (ar k1) sp dp c)) = (Sum.inl (G.2.1 1, N1, Sum.inl (va_cpy (fun j => Int32.ofInt (ar k0 j)) (fun j => Int32.ofInt (ar k1 j)) (Int32.ofInt sp).toNatClampNeg (Int32.ofInt dp).toNatClampNeg (Int32.ofInt c).toNatClampNeg)) : va_E) := by
    rw [za_cl g1 (by omega), za_cl g2 (by omega), za_cl g3 (by omega), zcp_va Int32.ofInt g1 g2 g3]; rfl
  rw [e2]
  exact P1
theorem z_acopyL {k0 k1 N0 N1 ix : Nat} {sp dp c : Int} (hd : decode M.2.1 pc = .ok (.invokestatic ix, 3)) (hn : pc + 3 = n) (hl : Cond.methodLink M.1.cls ix arraycopyName ∈ zT) (h0 : X sz ar k0 = zA 2 N0 (ar k0)) (h1 : X sz ar k1 = zA 2 N1 (ar k1)) (hq : ∀ f, zA 2 N1 f = XF k1 (sz k1) f) (g1 : 0 ≤ sp) (g2 : 0 ≤ dp) (g3 : 0 ≤ c) (g4 : sp + c ≤ N0) (g5 : dp + c ≤ N1) (g6 : N0 < 2147483648 ∧ N1 < 2147483648) (hr : 1 ≤ B.1.frames) (hr2 : (stk.map zcat).sum + 30 ≤ B.1.locals) (kk : zW G M B Q n L stk (X sz (zq ar k1 (zcp (ar k0) (ar k1) sp dp c)))) : zW G M B Q pc L (zI c :: zI dp :: zR k1 :: zI sp :: zR k0 :: stk) (X sz ar) := by
  intro p l e s m args below meth cd H locs ls F J P S hls
  have F' := F
  obtain ⟨hx, hb, hrt, hml, hown, hts, hlocks, hK, hI, hZ⟩ := F'
  subst hn
  have hw0 := zw_arr (G := G) J h0 (by decide)
  have hw1 := zw_arr (G := G) J h1 (by decide)
  refine va_copyl hx hb (hml.trans hls.1.symm) hown (hts _ hl) (hts _ ac_nat) (hts _ ac_sta) (hts _ ini_RJ10) hK P (zw_D hI) S k0 k1 2 2 hw0 hw1 rfl rfl rfl (by rw [za_lt0 ⟨by omega, by omega⟩]; omega) (by rw [za_lt0 ⟨by omega, by omega⟩]; omega) (by rw [za_lt0 ⟨by omega, by omega⟩]; omega) (by rw [za_cl g1 (by omega), za_cl g3 (by omega)]; omega) (by rw [za_cl g2 (by omega), za_cl g3 (by omega)]; omega) (fun _ _ => rfl) hr (by rw [zcats]; exact Nat.le_trans (Nat.add_le_add_left (Nat.le_of_ble_eq_true rfl) _) hr2) hd (fun H1 locs1 P1 D1 S1 => ?_)
  refine kk p l e s m args below meth cd H1 locs1 ls F (X_J _ _) ?_ S1 hls
  rw [← X_putA (sz := sz) (hq _), ← zw_set (J.lta h1 (by decide))]
  have e2 : zcc G (zA 2 N1 (zcp (ar k0) (ar k1) sp dp c)) = (Sum.inl (G.2.1 2, N1, Sum.inr (Sum.inl (va_cpy (fun j => Int64.ofInt (ar k0 j)) (fun j => Int64.ofInt (ar k1 j)) (Int32.ofInt sp).toNatClampNeg (Int32.ofInt dp).toNatClampNeg (Int32.ofInt c).toNatClampNeg))) : va_E) := by
    rw [za_cl g1 (by omega), za_cl g2 (by omega), za_cl g3 (by omega), zcp_va Int64.ofInt g1 g2 g3]; rfl
  rw [e2]
  exact P1
end ZAC
end
section
/-! small static methods of the class, and its rows of letters -/
set_option maxHeartbeats 4000000 in
theorem c_X6_inverseOf {G : zG} {sz : zSz} {ar : zAr} {l : Int} (h : 0 ≤ l)  : zSem G mX6_inverseOf 0 [zI l] (X sz ar) (zpi fun r u => r = inv l ∧ u = X sz ar) := by
  refine z_enter (L' := [some (zI l)]) (by decide +kernel) (Nat.le_of_ble_eq_true rfl) ⟨0, rfl⟩ ?_
  refine z_iload_0 dX6_inverseOf_0 (n := 1) rfl ?_
  refine z_iconst dX6_inverseOf_1 (n := 2) rfl ?_
  refine z_ixor dX6_inverseOf_2 (n := 3) rfl (by omega) (by omega) ?_
  refine z_ret_i dX6_inverseOf_3 rfl ?_
  exact ⟨rfl, rfl⟩
set_option maxHeartbeats 4000000 in
theorem c_X6_stateOf {G : zG} {sz : zSz} {ar : zAr} {l : Int} (h : zr l)  : zSem G mX6_stateOf 0 [zI l] (X sz ar) (zpi fun r u => r = l / 2 ∧ u = X sz ar) := by
  refine z_enter (L' := [some (zI l)]) (by decide +kernel) (Nat.le_of_ble_eq_true rfl) ⟨0, rfl⟩ ?_
  refine z_iload_0 dX6_stateOf_0 (n := 1) rfl ?_
  refine z_iconst dX6_stateOf_1 (n := 2) rfl ?_
  refine z_ishr dX6_stateOf_2 (n := 3) rfl (by first | assumption | exact ⟨by omega, by omega⟩ | exact zb_zr _) (by omega) (by omega) ?_
  refine z_ret_i dX6_stateOf_3 rfl ?_
  exact ⟨rfl, rfl⟩
set_option maxHeartbeats 4000000 in
theorem c_X6_isInverse {G : zG} {sz : zSz} {ar : zAr} {l : Int} (h : 0 ≤ l)  : zSem G mX6_isInverse 0 [zI l] (X sz ar) (zpi fun r u => r = zb (l % 2 = 1) ∧ u = X sz ar) := by
  refine z_enter (L' := [some (zI l)]) (by decide +kernel) (Nat.le_of_ble_eq_true rfl) ⟨0, rfl⟩ ?_
  refine z_iload_0 dX6_isInverse_0 (n := 1) rfl ?_
  refine z_iconst dX6_isInverse_1 (n := 2) rfl ?_
  refine z_iand1 dX6_isInverse_2 (n := 3) rfl (by omega) ?_
  refine z_iconst dX6_isInverse_3 (n := 4) rfl ?_
  refine z_icmp_ne dX6_isInverse_4 (n := 7) (tg := 11) rfl (by decide) (by first | assumption | exact ⟨by omega, by omega⟩ | exact zb_zr _) (by first | assumption | exact ⟨by omega, by omega⟩ | exact zb_zr _) (fun c4 => ?_) (fun c4 => ?_)
  · refine z_iconst dX6_isInverse_11 (n := 12) rfl ?_
    refine z_ret_z dX6_isInverse_12 rfl (by first | exact Or.inl rfl | exact Or.inr rfl | exact zb_or _) ?_
    first | exact ⟨(zb_t (by omega)).symm, rfl⟩ | exact ⟨(zb_f (by omega)).symm, rfl⟩
  · refine z_iconst dX6_isInverse_7 (n := 8) rfl ?_
    refine z_goto dX6_isInverse_8 (n := 12) (by decide) ?_
    refine z_ret_z dX6_isInverse_12 rfl (by first | exact Or.inl rfl | exact Or.inr rfl | exact zb_or _) ?_
    first | exact ⟨(zb_t (by omega)).symm, rfl⟩ | exact ⟨(zb_f (by omega)).symm, rfl⟩
set_option maxHeartbeats 4000000 in
theorem c_X6_letterOf {G : zG} {sz : zSz} {ar : zAr} {s : Int} {p : Prop}  : zSem G mX6_letterOf 0 [zI s, zI (zb p)] (X sz ar) (zpi fun r u => r = 2 * s + zb p ∧ u = X sz ar) := by
  refine z_enter (L' := [some (zI s), some (zI (zb p))]) (by decide +kernel) (Nat.le_of_ble_eq_true rfl) ⟨0, rfl⟩ ?_
  refine z_iconst dX6_letterOf_0 (n := 1) rfl ?_
  refine z_iload_0 dX6_letterOf_1 (n := 2) rfl ?_
  refine z_imul dX6_letterOf_2 (n := 3) rfl ?_
  refine z_iload_1 dX6_letterOf_3 (n := 4) rfl ?_
  refine z_if_eq dX6_letterOf_4 (n := 7) (tg := 11) rfl (by decide) (by first | assumption | exact ⟨by omega, by omega⟩ | exact zb_zr _) (fun c4 => ?_) (fun c4 => ?_)
  · refine z_iconst dX6_letterOf_11 (n := 12) rfl ?_
    refine z_iadd dX6_letterOf_12 (n := 13) rfl ?_
    refine z_ret_i dX6_letterOf_13 rfl ?_
    have h9 := zb_or p; exact ⟨by omega, rfl⟩
  · refine z_iconst dX6_letterOf_7 (n := 8) rfl ?_
    refine z_goto dX6_letterOf_8 (n := 12) (by decide) ?_
    refine z_iadd dX6_letterOf_12 (n := 13) rfl ?_
    refine z_ret_i dX6_letterOf_13 rfl ?_
    have h9 := zb_or p; exact ⟨by omega, rfl⟩
set_option maxHeartbeats 4000000 in
theorem c_X6_isSign {G : zG} {sz : zSz} {ar : zAr} {s : Int} (h : zr s)  : zSem G mX6_isSign 0 [zI s] (X sz ar) (zpi fun r u => r = zb (s = 0 ∨ s = 1) ∧ u = X sz ar) := by
  refine z_enter (L' := [some (zI s)]) (by decide +kernel) (Nat.le_of_ble_eq_true rfl) ⟨0, rfl⟩ ?_
  refine z_iload_0 dX6_isSign_0 (n := 1) rfl ?_
  refine z_if_eq dX6_isSign_1 (n := 4) (tg := 9) rfl (by decide) (by first | assumption | exact ⟨by omega, by omega⟩ | exact zb_zr _) (fun c1 => ?_) (fun c1 => ?_)
  · refine z_iconst dX6_isSign_9 (n := 10) rfl ?_
    refine z_goto dX6_isSign_10 (n := 14) (by decide) ?_
    refine z_ret_z dX6_isSign_14 rfl (by first | exact Or.inl rfl | exact Or.inr rfl | exact zb_or _) ?_
    first | exact ⟨(zb_t (by omega)).symm, rfl⟩ | exact ⟨(zb_f (by omega)).symm, rfl⟩
  · refine z_iload_0 dX6_isSign_4 (n := 5) rfl ?_
    refine z_iconst dX6_isSign_5 (n := 6) rfl ?_
    refine z_icmp_ne dX6_isSign_6 (n := 9) (tg := 13) rfl (by decide) (by first | assumption | exact ⟨by omega, by omega⟩ | exact zb_zr _) (by first | assumption | exact ⟨by omega, by omega⟩ | exact zb_zr _) (fun c6 => ?_) (fun c6 => ?_)
    · refine z_iconst dX6_isSign_13 (n := 14) rfl ?_
      refine z_ret_z dX6_isSign_14 rfl (by first | exact Or.inl rfl | exact Or.inr rfl | exact zb_or _) ?_
      first | exact ⟨(zb_t (by omega)).symm, rfl⟩ | exact ⟨(zb_f (by omega)).symm, rfl⟩
    · refine z_iconst dX6_isSign_9 (n := 10) rfl ?_
      refine z_goto dX6_isSign_10 (n := 14) (by decide) ?_
      refine z_ret_z dX6_isSign_14 rfl (by first | exact Or.inl rfl | exact Or.inr rfl | exact zb_or _) ?_
      first | exact ⟨(zb_t (by omega)).symm, rfl⟩ | exact ⟨(zb_f (by omega)).symm, rfl⟩
set_option maxHeartbeats 4000000 in
theorem c_X6_isKind {G : zG} {sz : zSz} {ar : zAr} {s : Int} (h : zr s)  : zSem G mX6_isKind 0 [zI s] (X sz ar) (zpi fun r u => r = zb (0 ≤ s ∧ s < 5) ∧ u = X sz ar) := by
  refine z_enter (L' := [some (zI s)]) (by decide +kernel) (Nat.le_of_ble_eq_true rfl) ⟨0, rfl⟩ ?_
  refine z_iload_0 dX6_isKind_0 (n := 1) rfl ?_
  refine z_if_lt dX6_isKind_1 (n := 4) (tg := 13) rfl (by decide) (by first | assumption | exact ⟨by omega, by omega⟩ | exact zb_zr _) (fun c1 => ?_) (fun c1 => ?_)
  · refine z_iconst dX6_isKind_13 (n := 14) rfl ?_
    refine z_ret_z dX6_isKind_14 rfl (by first | exact Or.inl rfl | exact Or.inr rfl | exact zb_or _) ?_
    first | exact ⟨(zb_t (by omega)).symm, rfl⟩ | exact ⟨(zb_f (by omega)).symm, rfl⟩
  · refine z_iload_0 dX6_isKind_4 (n := 5) rfl ?_
    refine z_iconst dX6_isKind_5 (n := 6) rfl ?_
    refine z_icmp_ge dX6_isKind_6 (n := 9) (tg := 13) rfl (by decide) (by first | assumption | exact ⟨by omega, by omega⟩ | exact zb_zr _) (by first | assumption | exact ⟨by omega, by omega⟩ | exact zb_zr _) (fun c6 => ?_) (fun c6 => ?_)
    · refine z_iconst dX6_isKind_13 (n := 14) rfl ?_
      refine z_ret_z dX6_isKind_14 rfl (by first | exact Or.inl rfl | exact Or.inr rfl | exact zb_or _) ?_
      first | exact ⟨(zb_t (by omega)).symm, rfl⟩ | exact ⟨(zb_f (by omega)).symm, rfl⟩
    · refine z_iconst dX6_isKind_9 (n := 10) rfl ?_
      refine z_goto dX6_isKind_10 (n := 14) (by decide) ?_
      refine z_ret_z dX6_isKind_14 rfl (by first | exact Or.inl rfl | exact Or.inr rfl | exact zb_or _) ?_
      first | exact ⟨(zb_t (by omega)).symm, rfl⟩ | exact ⟨(zb_f (by omega)).symm, rfl⟩
set_option maxHeartbeats 4000000 in
theorem c_X6_isWord {G : zG} {sz : zSz} {ar : zAr} {s : Int} (h : zr s)  : zSem G mX6_isWord 0 [zI s] (X sz ar) (zpi fun r u => r = zb (0 ≤ s ∧ s < 3) ∧ u = X sz ar) := by
  refine z_enter (L' := [some (zI s)]) (by decide +kernel) (Nat.le_of_ble_eq_true rfl) ⟨0, rfl⟩ ?_
  refine z_iload_0 dX6_isWord_0 (n := 1) rfl ?_
  refine z_if_lt dX6_isWord_1 (n := 4) (tg := 13) rfl (by decide) (by first | assumption | exact ⟨by omega, by omega⟩ | exact zb_zr _) (fun c1 => ?_) (fun c1 => ?_)
  · refine z_iconst dX6_isWord_13 (n := 14) rfl ?_
    refine z_ret_z dX6_isWord_14 rfl (by first | exact Or.inl rfl | exact Or.inr rfl | exact zb_or _) ?_
    first | exact ⟨(zb_t (by omega)).symm, rfl⟩ | exact ⟨(zb_f (by omega)).symm, rfl⟩
  · refine z_iload_0 dX6_isWord_4 (n := 5) rfl ?_
    refine z_iconst dX6_isWord_5 (n := 6) rfl ?_
    refine z_icmp_ge dX6_isWord_6 (n := 9) (tg := 13) rfl (by decide) (by first | assumption | exact ⟨by omega, by omega⟩ | exact zb_zr _) (by first | assumption | exact ⟨by omega, by omega⟩ | exact zb_zr _) (fun c6 => ?_) (fun c6 => ?_)
    · refine z_iconst dX6_isWord_13 (n := 14) rfl ?_
      refine z_ret_z dX6_isWord_14 rfl (by first | exact Or.inl rfl | exact Or.inr rfl | exact zb_or _) ?_
      first | exact ⟨(zb_t (by omega)).symm, rfl⟩ | exact ⟨(zb_f (by omega)).symm, rfl⟩
    · refine z_iconst dX6_isWord_9 (n := 10) rfl ?_
      refine z_goto dX6_isWord_10 (n := 14) (by decide) ?_
      refine z_ret_z dX6_isWord_14 rfl (by first | exact Or.inl rfl | exact Or.inr rfl | exact zb_or _) ?_
      first | exact ⟨(zb_t (by omega)).symm, rfl⟩ | exact ⟨(zb_f (by omega)).symm, rfl⟩
set_option maxHeartbeats 4000000 in
theorem c_X1_size {G : zG} {sz : zSz} {ar : zAr} {k : Nat} (hk : isL k)  : zSem G mX1_size 0 [zR k] (X sz ar) (zpi fun r u => r = sz k 1 ∧ u = X sz ar) := by
  refine z_enter (L' := [some (zR k)]) (by decide +kernel) (Nat.le_of_ble_eq_true rfl) ⟨0, rfl⟩ ?_
  refine z_aload_0 dX1_size_0 (n := 1) rfl ?_
  refine z_get dX1_size_1 (n := 4) rfl (XL1 hk) fd_X1_21 rfl ?_
  refine z_ret_i dX1_size_4 rfl ?_
  exact ⟨rfl, rfl⟩
set_option maxHeartbeats 4000000 in
theorem c_X1_clear {G : zG} {sz : zSz} {ar : zAr} {k : Nat} (hk : isL k)  : zSem G mX1_clear 0 [zR k] (X sz ar) (zpv fun u => u = X (zz sz k 1 0) ar) := by
  refine z_enter (L' := [some (zR k)]) (by decide +kernel) (Nat.le_of_ble_eq_true rfl) ⟨0, rfl⟩ ?_
  refine z_aload_0 dX1_clear_0 (n := 1) rfl ?_
  refine z_iconst dX1_clear_1 (n := 2) rfl ?_
  refine z_putX dX1_clear_2 (n := 5) rfl (XL1 hk) fw_X1_21 (by first | decide | simp) (XL3 hk _) ?_
  refine z_ret_v dX1_clear_5 rfl ?_
  rfl
set_option maxHeartbeats 4000000 in
theorem c_X1_at {G : zG} {sz : zSz} {ar : zAr} {k : Nat} {p : Int} (hk : isL k) (hp : zr p) (hs : sz k 1 ≤ cap k) (hs0 : 0 ≤ sz k 1)  : zSem G mX1_at 0 [zR k, zI p] (X sz ar) (zpi fun r u => r = (if 0 ≤ p ∧ p < sz k 1 then ar (k + 1) p else -1) ∧ u = X sz ar) := by
  refine z_enter (L' := [some (zR k), some (zI p)]) (by decide +kernel) (Nat.le_of_ble_eq_true rfl) ⟨0, rfl⟩ ?_
  have hc := cap_r k
  refine z_iload_1 dX1_at_0 (n := 1) rfl ?_
  refine z_if_lt dX1_at_1 (n := 4) (tg := 30) rfl (by decide) (by first | assumption | exact ⟨by omega, by omega⟩ | exact zb_zr _) (fun c1 => ?_) (fun c1 => ?_)
  · refine z_iconst dX1_at_30 (n := 31) rfl ?_
    refine z_ret_i dX1_at_31 rfl ?_
    first | exact ⟨(if_pos (by omega)).symm, rfl⟩ | exact ⟨(if_neg (by omega)).symm, rfl⟩
  · refine z_iload_1 dX1_at_4 (n := 5) rfl ?_
    refine z_aload_0 dX1_at_5 (n := 6) rfl ?_
    refine z_get dX1_at_6 (n := 9) rfl (XL1 hk) fd_X1_21 rfl ?_
    refine z_icmp_ge dX1_at_9 (n := 12) (tg := 30) rfl (by decide) (by first | assumption | exact ⟨by omega, by omega⟩ | exact zb_zr _) (by first | assumption | exact ⟨by omega, by omega⟩ | exact zb_zr _) (fun c9 => ?_) (fun c9 => ?_)
    · refine z_iconst dX1_at_30 (n := 31) rfl ?_
      refine z_ret_i dX1_at_31 rfl ?_
      first | exact ⟨(if_pos (by omega)).symm, rfl⟩ | exact ⟨(if_neg (by omega)).symm, rfl⟩
    · refine z_iload_1 dX1_at_12 (n := 13) rfl ?_
      refine z_aload_0 dX1_at_13 (n := 14) rfl ?_
      refine z_get dX1_at_14 (n := 17) rfl (XL1 hk) fd_X1_15 rfl ?_
      refine z_alen dX1_at_17 (n := 18) rfl (XL2 hk) (by decide) ?_
      refine z_icmp_ge dX1_at_18 (n := 21) (tg := 30) rfl (by decide) (by first | assumption | exact ⟨by omega, by omega⟩ | exact zb_zr _) (by first | assumption | exact ⟨by omega, by omega⟩ | exact zb_zr _) (fun c18 => ?_) (fun c18 => ?_)
      · refine z_iconst dX1_at_30 (n := 31) rfl ?_
        refine z_ret_i dX1_at_31 rfl ?_
        first | exact ⟨(if_pos (by omega)).symm, rfl⟩ | exact ⟨(if_neg (by omega)).symm, rfl⟩
      · refine z_aload_0 dX1_at_21 (n := 22) rfl ?_
        refine z_get dX1_at_22 (n := 25) rfl (XL1 hk) fd_X1_15 rfl ?_
        refine z_iload_1 dX1_at_25 (n := 26) rfl ?_
        refine z_iald dX1_at_26 (n := 27) rfl (XL2 hk) (by omega) (by omega) (by omega) ?_
        refine z_goto dX1_at_27 (n := 31) (by decide) ?_
        refine z_ret_i dX1_at_31 rfl ?_
        first | exact ⟨(if_pos (by omega)).symm, rfl⟩ | exact ⟨(if_neg (by omega)).symm, rfl⟩
set_option maxHeartbeats 4000000 in
theorem c_X1_addAsIs {G : zG} {sz : zSz} {ar : zAr} {k : Nat} {l : Int} (hk : isL k) (hs0 : 0 ≤ sz k 1) (hs : sz k 1 < cap k)  : zSem G mX1_addAsIs 0 [zR k, zI l] (X sz ar) (zpv fun u => u = X (zz sz k 1 (sz k 1 + 1)) (zq ar (k + 1) (zf (ar (k + 1)) (sz k 1) l))) := by
  refine z_enter (L' := [some (zR k), some (zI l)]) (by decide +kernel) (Nat.le_of_ble_eq_true rfl) ⟨0, rfl⟩ ?_
  have hc := cap_r k
  refine z_aload_0 dX1_addAsIs_0 (n := 1) rfl ?_
  refine z_get dX1_addAsIs_1 (n := 4) rfl (XL1 hk) fd_X1_21 rfl ?_
  refine z_if_lt dX1_addAsIs_4 (n := 7) (tg := 39) rfl (by decide) (by first | assumption | exact ⟨by omega, by omega⟩ | exact zb_zr _) (fun c4 => ?_) (fun c4 => ?_)
  · exfalso; omega
  · refine z_aload_0 dX1_addAsIs_7 (n := 8) rfl ?_
    refine z_get dX1_addAsIs_8 (n := 11) rfl (XL1 hk) fd_X1_21 rfl ?_
    refine z_aload_0 dX1_addAsIs_11 (n := 12) rfl ?_
    refine z_get dX1_addAsIs_12 (n := 15) rfl (XL1 hk) fd_X1_15 rfl ?_
    refine z_alen dX1_addAsIs_15 (n := 16) rfl (XL2 hk) (by decide) ?_
    refine z_icmp_ge dX1_addAsIs_16 (n := 19) (tg := 39) rfl (by decide) (by first | assumption | exact ⟨by omega, by omega⟩ | exact zb_zr _) (by first | assumption | exact ⟨by omega, by omega⟩ | exact zb_zr _) (fun c16 => ?_) (fun c16 => ?_)
    · exfalso; omega
    · refine z_aload_0 dX1_addAsIs_19 (n := 20) rfl ?_
      refine z_get dX1_addAsIs_20 (n := 23) rfl (XL1 hk) fd_X1_15 rfl ?_
      refine z_aload_0 dX1_addAsIs_23 (n := 24) rfl ?_
      refine z_get dX1_addAsIs_24 (n := 27) rfl (XL1 hk) fd_X1_21 rfl ?_
      refine z_iload_1 dX1_addAsIs_27 (n := 28) rfl ?_
      refine z_iastX dX1_addAsIs_28 (n := 29) rfl (XL2 hk) (by omega) (by omega) (by omega) (XL4 hk _) ?_
      refine z_aload_0 dX1_addAsIs_29 (n := 30) rfl ?_
      refine z_dup dX1_addAsIs_30 (n := 31) rfl rfl ?_
      refine z_get dX1_addAsIs_31 (n := 34) rfl (XL1 hk) fd_X1_21 rfl ?_
      refine z_iconst dX1_addAsIs_34 (n := 35) rfl ?_
      refine z_iadd dX1_addAsIs_35 (n := 36) rfl ?_
      refine z_putX dX1_addAsIs_36 (n := 39) rfl (XL1 hk) fw_X1_21 (by first | decide | simp) (XL3 hk _) ?_
      refine z_ret_v dX1_addAsIs_39 rfl ?_
      rfl
def Ls (xs : List Int) : Prop := ∀ y ∈ xs, 0 ≤ y ∧ y < 12
theorem Ls.nil : Ls [] := fun y h => by cases h
theorem Ls.rd {xs : List Int} {l : Int} (h : Ls xs) (h0 : 0 ≤ l) (h1 : l < 12) : Ls (red xs l) := by
  intro y hy
  unfold red at hy
  split at hy
  · exact h y ((List.dropLast_sublist xs).subset hy)
  · rcases List.mem_append.mp hy with hy | hy
    · exact h y hy
    · rw [List.mem_singleton.mp hy]; exact ⟨h0, h1⟩
theorem Ls.fold {ls : List Int} (h2 : Ls ls) : ∀ {xs : List Int}, Ls xs → Ls (ls.foldl red xs) := by
  induction ls with
  | nil => intro xs h; exact h
  | cons a t ih =>
    intro xs h
    have ha := h2 a List.mem_cons_self
    exact ih (fun y hy => h2 y (List.mem_cons_of_mem _ hy)) (h.rd ha.1 ha.2)
theorem LR.mem {n : Int} {f : Int → Int} {xs : List Int} (h : LR n f xs) {i : Int} (h0 : 0 ≤ i) (h1 : i < n) : f i ∈ xs := by
  rw [h.get h0 h1]
  have hl : i.toNat < xs.length := by have := h.1; omega
  rw [List.getD_eq_getElem?_getD, List.getElem?_eq_getElem hl]
  exact List.getElem_mem hl
theorem LR.mid {n : Int} {f : Int → Int} {pre t : List Int} {a : Int} (h : LR n f (pre ++ a :: t)) : f pre.length = a := by
  have := h.2 pre.length (by simp)
  rw [this]
  simp
theorem LR.len {n : Int} {f : Int → Int} {xs : List Int} (h : LR n f xs) : n = xs.length := h.1
set_option maxHeartbeats 4000000 in
theorem c_X1_addReduced {G : zG} {sz : zSz} {ar : zAr} {k : Nat} {l : Int} {xs : List Int} (hk : isL k) (h0 : 0 ≤ l) (h1 : l < 12) (hL : LR (sz k 1) (ar (k + 1)) xs) (hx : Ls xs) (hs : xs.length < cap k)  : zSem G mX1_addReduced 1 [zR k, zI l] (X sz ar) (zpv fun u => zLP k (red xs l) sz ar u) := by
  refine z_enter (L' := [some (zR k), some (zI l)]) (by decide +kernel) (Nat.le_of_ble_eq_true rfl) ⟨0, rfl⟩ ?_
  have hc := cap_r k
  have hn := hL.1
  have hi := inv_lt (n := 6) h0 (by omega)
  have hi0 := inv_0 h0
  refine z_aload_0 dX1_addReduced_0 (n := 1) rfl ?_
  refine z_get dX1_addReduced_1 (n := 4) rfl (XL1 hk) fd_X1_21 rfl ?_
  refine z_if_le dX1_addReduced_4 (n := 7) (tg := 37) rfl (by decide) (by first | assumption | exact ⟨by omega, by omega⟩ | exact zb_zr _) (fun c4 => ?_) (fun c4 => ?_)
  · refine z_aload_0 dX1_addReduced_37 (n := 38) rfl ?_
    refine z_iload_1 dX1_addReduced_38 (n := 39) rfl ?_
    refine z_callV1v dX1_addReduced_39 (n := 42) rfl mv_X1_addAsIs lk_X1_32 (XL1 hk) (zrm (by decide) (by decide)) (Nat.le_of_ble_eq_true rfl) (c_X1_addAsIs hk (by omega) (by omega)) (fun u hp => ?_)
    subst hp
    refine z_ret_v dX1_addReduced_42 rfl ?_
    first | exact ⟨_, _, rfl, by rw [zz_eq]; exact hL.red1 (by omega) (by assumption), fun j hj => zz_ne hj, fun j hj => rfl⟩ | exact ⟨_, _, rfl, by rw [zz_eq, zq_eq]; exact hL.red2 (by first | (left; omega) | (right; assumption)), fun j hj => zz_ne hj, fun j hj => zq_ne hj⟩
  · refine z_aload_0 dX1_addReduced_7 (n := 8) rfl ?_
    refine z_aload_0 dX1_addReduced_8 (n := 9) rfl ?_
    refine z_get dX1_addReduced_9 (n := 12) rfl (XL1 hk) fd_X1_21 rfl ?_
    refine z_iconst dX1_addReduced_12 (n := 13) rfl ?_
    refine z_isub dX1_addReduced_13 (n := 14) rfl ?_
    refine z_callV1i dX1_addReduced_14 (n := 17) rfl mv_X1_at lk_X1_25 (XL1 hk) (zrm (by decide) (by decide)) (Nat.le_of_ble_eq_true rfl) (c_X1_at hk (by first | assumption | exact ⟨by omega, by omega⟩ | exact zb_zr _) (by omega) (by omega)) (fun r u hp => ?_)
    obtain ⟨rfl, rfl⟩ := hp
    rw [if_pos (by omega)]
    have hy := hx _ (hL.mem (i := sz k 1 - 1) (by omega) (by omega))
    refine z_iload_1 dX1_addReduced_17 (n := 18) rfl ?_
    refine z_callN1i dX1_addReduced_18 (n := 21) rfl ms_X6_inverseOf lk_X1_29 (zrm (by decide) (by decide)) (Nat.le_of_ble_eq_true rfl) (c_X6_inverseOf (by omega)) (fun r u hp => ?_)
    obtain ⟨rfl, rfl⟩ := hp
    refine z_icmp_ne dX1_addReduced_21 (n := 24) (tg := 37) rfl (by decide) (by first | assumption | exact ⟨by omega, by omega⟩ | exact zb_zr _) (by first | assumption | exact ⟨by omega, by omega⟩ | exact zb_zr _) (fun c21 => ?_) (fun c21 => ?_)
    · refine z_aload_0 dX1_addReduced_37 (n := 38) rfl ?_
      refine z_iload_1 dX1_addReduced_38 (n := 39) rfl ?_
      refine z_callV1v dX1_addReduced_39 (n := 42) rfl mv_X1_addAsIs lk_X1_32 (XL1 hk) (zrm (by decide) (by decide)) (Nat.le_of_ble_eq_true rfl) (c_X1_addAsIs hk (by omega) (by omega)) (fun u hp => ?_)
      subst hp
      refine z_ret_v dX1_addReduced_42 rfl ?_
      first | exact ⟨_, _, rfl, by rw [zz_eq]; exact hL.red1 (by omega) (by assumption), fun j hj => zz_ne hj, fun j hj => rfl⟩ | exact ⟨_, _, rfl, by rw [zz_eq, zq_eq]; exact hL.red2 (by first | (left; omega) | (right; assumption)), fun j hj => zz_ne hj, fun j hj => zq_ne hj⟩
    · refine z_aload_0 dX1_addReduced_24 (n := 25) rfl ?_
      refine z_dup dX1_addReduced_25 (n := 26) rfl rfl ?_
      refine z_get dX1_addReduced_26 (n := 29) rfl (XL1 hk) fd_X1_21 rfl ?_
      refine z_iconst dX1_addReduced_29 (n := 30) rfl ?_
      refine z_isub dX1_addReduced_30 (n := 31) rfl ?_
      refine z_putX dX1_addReduced_31 (n := 34) rfl (XL1 hk) fw_X1_21 (by first | decide | simp) (XL3 hk _) ?_
      refine z_goto dX1_addReduced_34 (n := 42) (by decide) ?_
      refine z_ret_v dX1_addReduced_42 rfl ?_
      first | exact ⟨_, _, rfl, by rw [zz_eq]; exact hL.red1 (by omega) (by assumption), fun j hj => zz_ne hj, fun j hj => rfl⟩ | exact ⟨_, _, rfl, by rw [zz_eq, zq_eq]; exact hL.red2 (by first | (left; omega) | (right; assumption)), fun j hj => zz_ne hj, fun j hj => zq_ne hj⟩
theorem Fr.L {k j : Nat} {sz sz' : zSz} {ar ar' : zAr} {xs : List Int} (h : Fr k sz ar sz' ar') (hk : isL k) (hj : isL j) (hjk : j ≠ k) (hL : LR (sz j 1) (ar (j + 1)) xs) : LR (sz' j 1) (ar' (j + 1)) xs := by
  rw [h.1 j hjk, h.2 (j + 1) (by omega)]
  exact hL
set_option maxHeartbeats 4000000 in
theorem lo_X1_addAll {G : zG} {sz : zSz} {ar : zAr} {k j : Nat} {ys : List Int} (hk : isL k) (hj : isL j) (hjk : j ≠ k) (hY : LR (sz j 1) (ar (j + 1)) ys) (hy : Ls ys) (hyc : ys.length ≤ cap j) :
    ∀ (rest pre acc : List Int) (sz' : zSz) (ar' : zAr), ys = pre ++ rest → LR (sz' k 1) (ar' (k + 1)) acc → Ls acc → acc.length + rest.length ≤ cap k → Fr k sz ar sz' ar' →
    zWP G mX1_addAll 2 (zpv (zLP k (rest.foldl red acc) sz ar)) 2 [some (zR k), some (zR j), some (zI pre.length)] [] (X sz' ar') := by
  have hc := cap_r k
  have hc2 := cap_r j
  intro rest
  induction rest with
  | nil =>
    intro pre acc sz' ar' e hL hA hcap hF
    have hY' := hF.L hk hj hjk hY
    have hn := hY'.1
    have el : ys.length = pre.length := by rw [e]; simp
    refine z_iload_2 dX1_addAll_2 (n := 3) rfl ?_
    refine z_aload_1 dX1_addAll_3 (n := 4) rfl ?_
    refine z_get dX1_addAll_4 (n := 7) rfl (XL1 hj) fd_X1_21 rfl ?_
    refine z_icmp_ge dX1_addAll_7 (n := 10) (tg := 25) rfl (by decide) (by first | assumption | exact ⟨by omega, by omega⟩ | exact zb_zr _) (by first | assumption | exact ⟨by omega, by omega⟩ | exact zb_zr _) (fun c7 => ?_) (fun c7 => ?_)
    · refine z_ret_v dX1_addAll_25 rfl ?_
      exact ⟨_, _, rfl, hL, hF⟩
    · exfalso; omega
  | cons a t ih =>
    intro pre acc sz' ar' e hL hA hcap hF
    have hY' := hF.L hk hj hjk hY
    have hn := hY'.1
    have el : ys.length = pre.length + (t.length + 1) := by rw [e]; simp
    have ha := hy a (by rw [e]; simp)
    have hla := red_len acc a
    have hm : ar' (j + 1) pre.length = a := LR.mid (t := t) (n := sz' j 1) (by rw [← e]; exact hY')
    simp only [List.length_cons] at hcap
    refine z_iload_2 dX1_addAll_2 (n := 3) rfl ?_
    refine z_aload_1 dX1_addAll_3 (n := 4) rfl ?_
    refine z_get dX1_addAll_4 (n := 7) rfl (XL1 hj) fd_X1_21 rfl ?_
    refine z_icmp_ge dX1_addAll_7 (n := 10) (tg := 25) rfl (by decide) (by first | assumption | exact ⟨by omega, by omega⟩ | exact zb_zr _) (by first | assumption | exact ⟨by omega, by omega⟩ | exact zb_zr _) (fun c7 => ?_) (fun c7 => ?_)
    · exfalso; omega
    · refine z_aload_0 dX1_addAll_10 (n := 11) rfl ?_
      refine z_aload_1 dX1_addAll_11 (n := 12) rfl ?_
      refine z_iload_2 dX1_addAll_12 (n := 13) rfl ?_
      refine z_callV1i dX1_addAll_13 (n := 16) rfl mv_X1_at lk_X1_25 (XL1 hj) (zrm (by decide) (by decide)) (Nat.le_of_ble_eq_true rfl) (c_X1_at hj (by first | assumption | exact ⟨by omega, by omega⟩ | exact zb_zr _) (by omega) (by omega)) (fun r u hp => ?_)
      obtain ⟨rfl, rfl⟩ := hp
      rw [if_pos (by omega), hm]
      refine z_callV1v dX1_addAll_16 (n := 19) rfl mv_X1_addReduced lk_X1_36 (XL1 hk) (zrm (by decide) (by decide)) (Nat.le_of_ble_eq_true rfl) (c_X1_addReduced hk ha.1 ha.2 hL hA (by omega)) (fun u hp => ?_)
      obtain ⟨sz2, ar2, rfl, hL2, hF2⟩ := hp
      refine z_iinc_2 dX1_addAll_19 (n := 22) rfl (by decide) (fun w h => by cases h; try rfl) ?_
      refine z_goto dX1_addAll_22 (n := 2) (by decide) ?_
      have h9 := ih (pre ++ [a]) (red acc a) sz2 ar2 (by rw [e]; simp) hL2 (hA.rd ha.1 ha.2) (by omega) (hF.tr hF2)
      rw [show ((pre ++ [a]).length : Int) = (pre.length : Int) + 1 by simp] at h9
      exact h9
set_option maxHeartbeats 4000000 in
theorem c_X1_addAll {G : zG} {sz : zSz} {ar : zAr} {k j : Nat} {xs ys : List Int} (hk : isL k) (hj : isL j) (hjk : j ≠ k) (hL : LR (sz k 1) (ar (k + 1)) xs) (hx : Ls xs) (hY : LR (sz j 1) (ar (j + 1)) ys) (hy : Ls ys) (hyc : ys.length ≤ cap j) (hs : xs.length + ys.length ≤ cap k)  : zSem G mX1_addAll 2 [zR k, zR j] (X sz ar) (zpv fun u => zLP k (ys.foldl red xs) sz ar u) := by
  refine z_enter (L' := [some (zR k), some (zR j), none]) (by decide +kernel) (Nat.le_of_ble_eq_true rfl) ⟨1, rfl⟩ ?_
  refine z_iconst dX1_addAll_0 (n := 1) rfl ?_
  refine z_istore_2 dX1_addAll_1 (n := 2) rfl (by decide) (fun w h => by cases h; try rfl) ?_
  exact lo_X1_addAll hk hj hjk hY hy hyc ys [] xs sz ar rfl hL hx hs Fr.rf
theorem getD_rev {xs : List Int} {i : Nat} (h : i < xs.length) : xs.getD i 0 = xs.reverse.getD (xs.length - 1 - i) 0 := by
  rw [List.getD_eq_getElem?_getD, List.getD_eq_getElem?_getD, List.getElem?_reverse (by omega)]
  congr 2
  omega
/-- the inverses of a word's letters from its last one back -/
def undone (ys : List Int) : List Int := (ys.map inv).reverse
theorem undone_cons (a : Int) (ys : List Int) : undone (ys ++ [a]) = inv a :: undone ys := by simp [undone]
theorem undone_len (ys : List Int) : (undone ys).length = ys.length := by simp [undone]
theorem Ls.un {ys : List Int} (h : Ls ys) : Ls (undone ys) := by
  intro y hy
  simp only [undone, List.mem_reverse, List.mem_map] at hy
  obtain ⟨z, hz, rfl⟩ := hy
  have := h z hz
  have h2 := inv_lt (n := 6) this.1 (by omega)
  exact ⟨inv_0 this.1, by omega⟩
set_option maxHeartbeats 4000000 in
theorem lo_X1_addUndone {G : zG} {sz : zSz} {ar : zAr} {k j : Nat} {ys : List Int} (hk : isL k) (hj : isL j) (hjk : j ≠ k) (hY : LR (sz j 1) (ar (j + 1)) ys) (hy : Ls ys) (hyc : ys.length ≤ cap j) :
    ∀ (m : Nat) (pre suf acc : List Int) (sz' : zSz) (ar' : zAr), ys = pre ++ suf → pre.length = m → LR (sz' k 1) (ar' (k + 1)) acc → Ls acc → acc.length + pre.length ≤ cap k → Fr k sz ar sz' ar' →
    zWP G mX1_addUndone 2 (zpv (zLP k ((undone pre).foldl red acc) sz ar)) 7 [some (zR k), some (zR j), some (zI (m - 1))] [] (X sz' ar') := by
  have hc := cap_r k
  have hc2 := cap_r j
  intro m
  induction m with
  | zero =>
    intro pre suf acc sz' ar' e hm hL hA hcap hF
    have hp : pre = [] := List.length_eq_zero_iff.mp hm
    subst hp
    refine z_iload_2 dX1_addUndone_7 (n := 8) rfl ?_
    refine z_if_lt dX1_addUndone_8 (n := 11) (tg := 29) rfl (by decide) (by first | assumption | exact ⟨by omega, by omega⟩ | exact zb_zr _) (fun c8 => ?_) (fun c8 => ?_)
    · refine z_ret_v dX1_addUndone_29 rfl ?_
      exact ⟨_, _, rfl, hL, hF⟩
    · exfalso; omega
  | succ m ih =>
    intro pre suf acc sz' ar' e hm hL hA hcap hF
    obtain ⟨p2, a, rfl⟩ : ∃ p2 a, pre = p2 ++ [a] := ⟨pre.dropLast, pre.getLast (by intro z; rw [z] at hm; cases hm), (List.dropLast_concat_getLast _).symm⟩
    have hm2 : p2.length = m := by simpa using hm
    have hY' := hF.L hk hj hjk hY
    have hn := hY'.1
    have el : ys.length = p2.length + (suf.length + 1) := by rw [e]; simp
    have ha := hy a (by rw [e]; simp)
    have hi := inv_lt (n := 6) ha.1 (by omega)
    have hi0 := inv_0 ha.1
    have hla := red_len acc (inv a)
    have hm3 : ar' (j + 1) m = a := by rw [← hm2]; exact LR.mid (t := suf) (n := sz' j 1) (by rw [e, List.append_assoc] at hY'; exact hY')
    have e1 : ((m + 1 : Nat) : Int) - 1 = m := by omega
    rw [e1, undone_cons, List.foldl_cons]
    simp only [List.length_append, List.length_cons, List.length_nil] at hcap
    refine z_iload_2 dX1_addUndone_7 (n := 8) rfl ?_
    refine z_if_lt dX1_addUndone_8 (n := 11) (tg := 29) rfl (by decide) (by first | assumption | exact ⟨by omega, by omega⟩ | exact zb_zr _) (fun c8 => ?_) (fun c8 => ?_)
    · exfalso; omega
    · refine z_aload_0 dX1_addUndone_11 (n := 12) rfl ?_
      refine z_aload_1 dX1_addUndone_12 (n := 13) rfl ?_
      refine z_iload_2 dX1_addUndone_13 (n := 14) rfl ?_
      refine z_callV1i dX1_addUndone_14 (n := 17) rfl mv_X1_at lk_X1_25 (XL1 hj) (zrm (by decide) (by decide)) (Nat.le_of_ble_eq_true rfl) (c_X1_at hj (by first | assumption | exact ⟨by omega, by omega⟩ | exact zb_zr _) (by omega) (by omega)) (fun r u hp => ?_)
      obtain ⟨rfl, rfl⟩ := hp
      rw [if_pos (by omega), hm3]
      refine z_callN1i dX1_addUndone_17 (n := 20) rfl ms_X6_inverseOf lk_X1_29 (zrm (by decide) (by decide)) (Nat.le_of_ble_eq_true rfl) (c_X6_inverseOf (by omega)) (fun r u hp => ?_)
      obtain ⟨rfl, rfl⟩ := hp
      refine z_callV1v dX1_addUndone_20 (n := 23) rfl mv_X1_addReduced lk_X1_36 (XL1 hk) (zrm (by decide) (by decide)) (Nat.le_of_ble_eq_true rfl) (c_X1_addReduced hk hi0 (by omega) hL hA (by omega)) (fun u hp => ?_)
      obtain ⟨sz2, ar2, rfl, hL2, hF2⟩ := hp
      refine z_iinc_2 dX1_addUndone_23 (n := 26) rfl (by decide) (fun w h => by cases h; try rfl) ?_
      refine z_goto dX1_addUndone_26 (n := 7) (by decide) ?_
      exact ih p2 (a :: suf) (red acc (inv a)) sz2 ar2 (by rw [e]; simp) hm2 hL2 (hA.rd hi0 (by omega)) (by omega) (hF.tr hF2)
set_option maxHeartbeats 4000000 in
theorem c_X1_addUndone {G : zG} {sz : zSz} {ar : zAr} {k j : Nat} {xs ys : List Int} (hk : isL k) (hj : isL j) (hjk : j ≠ k) (hL : LR (sz k 1) (ar (k + 1)) xs) (hx : Ls xs) (hY : LR (sz j 1) (ar (j + 1)) ys) (hy : Ls ys) (hyc : ys.length ≤ cap j) (hs : xs.length + ys.length ≤ cap k)  : zSem G mX1_addUndone 2 [zR k, zR j] (X sz ar) (zpv fun u => zLP k ((undone ys).foldl red xs) sz ar u) := by
  refine z_enter (L' := [some (zR k), some (zR j), none]) (by decide +kernel) (Nat.le_of_ble_eq_true rfl) ⟨1, rfl⟩ ?_
  refine z_aload_1 dX1_addUndone_0 (n := 1) rfl ?_
  refine z_get dX1_addUndone_1 (n := 4) rfl (XL1 hj) fd_X1_21 rfl ?_
  refine z_iconst dX1_addUndone_4 (n := 5) rfl ?_
  refine z_isub dX1_addUndone_5 (n := 6) rfl ?_
  refine z_istore_2 dX1_addUndone_6 (n := 7) rfl (by decide) (fun w h => by cases h; try rfl) ?_
  rw [hY.1]
  exact lo_X1_addUndone hk hj hjk hY hy hyc ys.length ys [] xs sz ar (by simp) rfl hL hx hs Fr.rf
set_option maxHeartbeats 4000000 in
theorem lo_X1_copyFrom {G : zG} {sz : zSz} {ar : zAr} {k j : Nat} {ys : List Int} (hk : isL k) (hj : isL j) (hjk : j ≠ k) (hY : LR (sz j 1) (ar (j + 1)) ys) (hyc : ys.length ≤ cap j) (hs : ys.length ≤ cap k) :
    ∀ (rest pre : List Int) (sz' : zSz) (ar' : zAr), ys = pre ++ rest → LR (sz' k 1) (ar' (k + 1)) pre → Fr k sz ar sz' ar' →
    zWP G mX1_copyFrom 2 (zpv (zLP k ys sz ar)) 7 [some (zR k), some (zR j), some (zI pre.length)] [] (X sz' ar') := by
  have hc := cap_r k
  have hc2 := cap_r j
  intro rest
  induction rest with
  | nil =>
    intro pre sz' ar' e hL hF
    have hY' := hF.L hk hj hjk hY
    have hn := hY'.1
    have el : ys = pre := by rw [e]; simp
    subst el
    refine z_iload_2 dX1_copyFrom_7 (n := 8) rfl ?_
    refine z_aload_1 dX1_copyFrom_8 (n := 9) rfl ?_
    refine z_get dX1_copyFrom_9 (n := 12) rfl (XL1 hj) fd_X1_21 rfl ?_
    refine z_icmp_ge dX1_copyFrom_12 (n := 15) (tg := 30) rfl (by decide) (by first | assumption | exact ⟨by omega, by omega⟩ | exact zb_zr _) (by first | assumption | exact ⟨by omega, by omega⟩ | exact zb_zr _) (fun c12 => ?_) (fun c12 => ?_)
    · refine z_ret_v dX1_copyFrom_30 rfl ?_
      exact ⟨_, _, rfl, hL, hF⟩
    · exfalso; omega
  | cons a t ih =>
    intro pre sz' ar' e hL hF
    have hY' := hF.L hk hj hjk hY
    have hn := hY'.1
    have hn2 := hL.1
    have el : ys.length = pre.length + (t.length + 1) := by rw [e]; simp
    have hm : ar' (j + 1) pre.length = a := LR.mid (t := t) (n := sz' j 1) (by rw [← e]; exact hY')
    refine z_iload_2 dX1_copyFrom_7 (n := 8) rfl ?_
    refine z_aload_1 dX1_copyFrom_8 (n := 9) rfl ?_
    refine z_get dX1_copyFrom_9 (n := 12) rfl (XL1 hj) fd_X1_21 rfl ?_
    refine z_icmp_ge dX1_copyFrom_12 (n := 15) (tg := 30) rfl (by decide) (by first | assumption | exact ⟨by omega, by omega⟩ | exact zb_zr _) (by first | assumption | exact ⟨by omega, by omega⟩ | exact zb_zr _) (fun c12 => ?_) (fun c12 => ?_)
    · exfalso; omega
    · refine z_aload_0 dX1_copyFrom_15 (n := 16) rfl ?_
      refine z_aload_1 dX1_copyFrom_16 (n := 17) rfl ?_
      refine z_iload_2 dX1_copyFrom_17 (n := 18) rfl ?_
      refine z_callV1i dX1_copyFrom_18 (n := 21) rfl mv_X1_at lk_X1_25 (XL1 hj) (zrm (by decide) (by decide)) (Nat.le_of_ble_eq_true rfl) (c_X1_at hj (by first | assumption | exact ⟨by omega, by omega⟩ | exact zb_zr _) (by omega) (by omega)) (fun r u hp => ?_)
      obtain ⟨rfl, rfl⟩ := hp
      rw [if_pos (by omega), hm]
      refine z_callV1v dX1_copyFrom_21 (n := 24) rfl mv_X1_addAsIs lk_X1_32 (XL1 hk) (zrm (by decide) (by decide)) (Nat.le_of_ble_eq_true rfl) (c_X1_addAsIs hk (by omega) (by omega)) (fun u hp => ?_)
      subst hp
      refine z_iinc_2 dX1_copyFrom_24 (n := 27) rfl (by decide) (fun w h => by cases h; try rfl) ?_
      refine z_goto dX1_copyFrom_27 (n := 7) (by decide) ?_
      have h9 := ih (pre ++ [a]) _ _ (by rw [e]; simp) (by rw [zz_eq, zq_eq]; exact hL.add) (hF.tr ⟨fun i hi => zz_ne hi, fun i hi => zq_ne hi⟩)
      rw [show ((pre ++ [a]).length : Int) = (pre.length : Int) + 1 by simp] at h9
      exact h9
set_option maxHeartbeats 4000000 in
theorem c_X1_copyFrom {G : zG} {sz : zSz} {ar : zAr} {k j : Nat} {ys : List Int} (hk : isL k) (hj : isL j) (hjk : j ≠ k) (hY : LR (sz j 1) (ar (j + 1)) ys) (hyc : ys.length ≤ cap j) (hs : ys.length ≤ cap k)  : zSem G mX1_copyFrom 2 [zR k, zR j] (X sz ar) (zpv fun u => zLP k ys sz ar u) := by
  refine z_enter (L' := [some (zR k), some (zR j), none]) (by decide +kernel) (Nat.le_of_ble_eq_true rfl) ⟨1, rfl⟩ ?_
  refine z_aload_0 dX1_copyFrom_0 (n := 1) rfl ?_
  refine z_iconst dX1_copyFrom_1 (n := 2) rfl ?_
  refine z_putX dX1_copyFrom_2 (n := 5) rfl (XL1 hk) fw_X1_21 (by first | decide | simp) (XL3 hk _) ?_
  refine z_iconst dX1_copyFrom_5 (n := 6) rfl ?_
  refine z_istore_2 dX1_copyFrom_6 (n := 7) rfl (by decide) (fun w h => by cases h; try rfl) ?_
  exact lo_X1_copyFrom hk hj hjk hY hyc hs ys [] _ _ rfl (by rw [zz_eq]; exact LR.nil) ⟨fun i hi => zz_ne hi, fun i hi => rfl⟩
end
section
/-! what states do: n STATES, kd their kinds, nx their nexts -/
theorem zor_lt {a b : Int} {k : Nat} (ha : 0 ≤ a) (hb : 0 ≤ b) (h1 : a < 2 ^ k) (h2 : b < 2 ^ k) : zor a b < 2 ^ k := by
  obtain ⟨x, rfl⟩ := Int.eq_ofNat_of_zero_le ha
  obtain ⟨y, rfl⟩ := Int.eq_ofNat_of_zero_le hb
  unfold zor
  have e1 : x < 2 ^ k := by exact_mod_cast h1
  have e2 : y < 2 ^ k := by exact_mod_cast h2
  have := Nat.or_lt_two_pow e1 e2
  exact_mod_cast this
theorem zor_zero {a : Int} (ha : 0 ≤ a) : zor a 0 = a := by
  obtain ⟨x, rfl⟩ := Int.eq_ofNat_of_zero_le ha
  simp [zor]
def fl (kd : Int → Int) (s : Int) : Prop := kd s = 1 ∨ kd s = 2 ∨ kd s = 4
def gon (kd nx : Int → Int) (s w : Int) : Int := if kd s = 0 ∨ kd s = 1 then nx (2 * s + w) else if kd s = 2 then nx (2 * s + (1 - w)) else -1
/-- a machine as it must be -/
def MOK (n : Int) (kd nx : Int → Int) : Prop := 0 ≤ n ∧ n ≤ 6 ∧ (∀ s, 0 ≤ s → s < n → 0 ≤ kd s ∧ kd s ≤ 4) ∧ (∀ j, 0 ≤ j → j < 2 * n → -1 ≤ nx j ∧ nx j < n)
theorem MOK.go {n : Int} {kd nx : Int → Int} (h : MOK n kd nx) {s w : Int} (h0 : 0 ≤ s) (h1 : s < n) (h2 : 0 ≤ w) (h3 : w ≤ 1) : -1 ≤ gon kd nx s w ∧ gon kd nx s w < n := by
  have a := h.2.2.2 (2 * s + w) (by omega) (by omega)
  have b := h.2.2.2 (2 * s + (1 - w)) (by omega) (by omega)
  unfold gon
  split
  · exact a
  · split
    · exact b
    · omega
def bitS (t : Int) : Int := if 0 ≤ t then 2 ^ t.toNat else 0
theorem bitS_0 (t : Int) : 0 ≤ bitS t := by
  unfold bitS
  split
  · exact Int.le_of_lt (Int.pow_pos (by decide))
  · omega
theorem bitS_lt {t : Int} (h : t < 6) : bitS t < 2 ^ 6 := by
  unfold bitS
  split
  · have h2 : t.toNat < 6 := by omega
    have : ∀ k, k < 6 → (2 : Int) ^ k < 2 ^ 6 := by decide
    exact this _ h2
  · decide
def nxs (kd nx : Int → Int) (s : Int) : Int := zor (zor 0 (bitS (gon kd nx s 0))) (bitS (gon kd nx s 1))
theorem nxs_r {n : Int} {kd nx : Int → Int} (h : MOK n kd nx) {s : Int} (h0 : 0 ≤ s) (h1 : s < n) : 0 ≤ nxs kd nx s ∧ nxs kd nx s < 2 ^ 6 := by
  have a := h.go h0 h1 (w := 0) (by omega) (by omega)
  have b := h.go h0 h1 (w := 1) (by omega) (by omega)
  have hn := h.2.1
  refine ⟨zor_0 _ _, zor_lt (zor_0 _ _) (bitS_0 _) (zor_lt (by decide) (bitS_0 _) (by decide) (bitS_lt (by omega))) (bitS_lt (by omega))⟩
/-- reach: one round through the first m states; rounds -/
def rIn (kd nx : Int → Int) : Nat → Int → Int
  | 0, r => r
  | m + 1, r => if rIn kd nx m r / 2 ^ m % 2 = 1 then zor (rIn kd nx m r) (nxs kd nx m) else rIn kd nx m r
def rOut (kd nx : Int → Int) (n : Nat) : Nat → Int → Int
  | 0, r => r
  | i + 1, r => rIn kd nx n (rOut kd nx n i r)
def rch (kd nx : Int → Int) (n s : Int) : Int := rOut kd nx n.toNat 6 (nxs kd nx s)
theorem rIn_r {n : Int} {kd nx : Int → Int} (h : MOK n kd nx) : ∀ (m : Nat) (r : Int), (m : Int) ≤ n → 0 ≤ r → r < 2 ^ 6 → 0 ≤ rIn kd nx m r ∧ rIn kd nx m r < 2 ^ 6 := by
  intro m
  induction m with
  | zero => intro r _ h0 h1; exact ⟨h0, h1⟩
  | succ m ih =>
    intro r hm h0 h1
    have a := ih r (by omega) h0 h1
    have b := nxs_r h (s := m) (by omega) (by omega)
    unfold rIn
    split
    · exact ⟨zor_0 _ _, zor_lt a.1 b.1 a.2 b.2⟩
    · exact a
theorem rOut_r {n : Int} {kd nx : Int → Int} (h : MOK n kd nx) : ∀ (i : Nat) (r : Int), 0 ≤ r → r < 2 ^ 6 → 0 ≤ rOut kd nx n.toNat i r ∧ rOut kd nx n.toNat i r < 2 ^ 6 := by
  intro i
  induction i with
  | zero => intro r h0 h1; exact ⟨h0, h1⟩
  | succ i ih =>
    intro r h0 h1
    have a := ih r h0 h1
    exact rIn_r h _ _ (by have := h.1; omega) a.1 a.2
theorem rch_r {n : Int} {kd nx : Int → Int} (h : MOK n kd nx) {s : Int} (h0 : 0 ≤ s) (h1 : s < n) : 0 ≤ rch kd nx n s ∧ rch kd nx n s < 2 ^ 6 := by
  have b := nxs_r h h0 h1
  exact rOut_r h 6 _ b.1 b.2
def inC (kd nx : Int → Int) (n s : Int) : Prop := rch kd nx n s / 2 ^ s.toNat % 2 = 1
/-- how many of the first m are in the core -/
noncomputable def cnt (p : Int → Prop) : Nat → Int
  | 0 => 0
  | m + 1 => cnt p m + zb (p m)
theorem cnt_r (p : Int → Prop) (m : Nat) : 0 ≤ cnt p m ∧ cnt p m ≤ m := by
  induction m with
  | zero => exact ⟨Int.le_refl 0, Int.le_refl 0⟩
  | succ m ih =>
    have := zb_r (p m)
    unfold cnt
    omega
/-- the letter that does the rest behind a letter -/
noncomputable def lb (kd nx : Int → Int) (l b : Int) : Int :=
  let w := @ite Int (l % 2 = 1 ∧ fl kd (l / 2)) (Classical.propDecidable _) (1 - b) b
  if gon kd nx (l / 2) w = -1 then -1 else 2 * gon kd nx (l / 2) w + l % 2
theorem lb_r {n : Int} {kd nx : Int → Int} (h : MOK n kd nx) {l b : Int} (h0 : 0 ≤ l) (h1 : l < 2 * n) (h2 : 0 ≤ b) (h3 : b ≤ 1) : -1 ≤ lb kd nx l b ∧ lb kd nx l b < 2 * n := by
  have key : ∀ w, 0 ≤ w → w ≤ 1 → -1 ≤ (if gon kd nx (l / 2) w = -1 then -1 else 2 * gon kd nx (l / 2) w + l % 2) ∧ (if gon kd nx (l / 2) w = -1 then -1 else 2 * gon kd nx (l / 2) w + l % 2) < 2 * n := by
    intro w a b
    have := h.go (s := l / 2) (w := w) (by omega) (by omega) a b
    split <;> omega
  unfold lb
  by_cases hc : l % 2 = 1 ∧ fl kd (l / 2)
  · simp only [if_pos hc]; exact key _ (by omega) (by omega)
  · simp only [if_neg hc]; exact key _ (by omega) (by omega)
end
section
/-! Plan: the machine -/
set_option maxHeartbeats 4000000 in
theorem c_X3_size {G : zG} {sz : zSz} {ar : zAr}  : zSem G mX3_size 0 [zR 3] (X sz ar) (zpi fun r u => r = sz 3 4 ∧ u = X sz ar) := by
  refine z_enter (L' := [some (zR 3)]) (by decide +kernel) (Nat.le_of_ble_eq_true rfl) ⟨0, rfl⟩ ?_
  refine z_aload_0 dX3_size_0 (n := 1) rfl ?_
  refine z_get dX3_size_1 (n := 4) rfl rfl fd_X3_24 rfl ?_
  refine z_ret_i dX3_size_4 rfl ?_
  exact ⟨rfl, rfl⟩
set_option maxHeartbeats 4000000 in
theorem c_X3_has {G : zG} {sz : zSz} {ar : zAr} {s : Int} (hs : zr s) (hn : zr (sz 3 4))  : zSem G mX3_has 0 [zR 3, zI s] (X sz ar) (zpi fun r u => r = zb (0 ≤ s ∧ s < sz 3 4) ∧ u = X sz ar) := by
  refine z_enter (L' := [some (zR 3), some (zI s)]) (by decide +kernel) (Nat.le_of_ble_eq_true rfl) ⟨0, rfl⟩ ?_
  refine z_iload_1 dX3_has_0 (n := 1) rfl ?_
  refine z_if_lt dX3_has_1 (n := 4) (tg := 16) rfl (by decide) (by first | assumption | exact ⟨by omega, by omega⟩ | exact zb_zr _) (fun c1 => ?_) (fun c1 => ?_)
  · refine z_iconst dX3_has_16 (n := 17) rfl ?_
    refine z_ret_z dX3_has_17 rfl (by first | exact Or.inl rfl | exact Or.inr rfl | exact zb_or _) ?_
    first | exact ⟨(zb_t (by omega)).symm, rfl⟩ | exact ⟨(zb_f (by omega)).symm, rfl⟩
  · refine z_iload_1 dX3_has_4 (n := 5) rfl ?_
    refine z_aload_0 dX3_has_5 (n := 6) rfl ?_
    refine z_get dX3_has_6 (n := 9) rfl rfl fd_X3_24 rfl ?_
    refine z_icmp_ge dX3_has_9 (n := 12) (tg := 16) rfl (by decide) (by first | assumption | exact ⟨by omega, by omega⟩ | exact zb_zr _) (by first | assumption | exact ⟨by omega, by omega⟩ | exact zb_zr _) (fun c9 => ?_) (fun c9 => ?_)
    · refine z_iconst dX3_has_16 (n := 17) rfl ?_
      refine z_ret_z dX3_has_17 rfl (by first | exact Or.inl rfl | exact Or.inr rfl | exact zb_or _) ?_
      first | exact ⟨(zb_t (by omega)).symm, rfl⟩ | exact ⟨(zb_f (by omega)).symm, rfl⟩
    · refine z_iconst dX3_has_12 (n := 13) rfl ?_
      refine z_goto dX3_has_13 (n := 17) (by decide) ?_
      refine z_ret_z dX3_has_17 rfl (by first | exact Or.inl rfl | exact Or.inr rfl | exact zb_or _) ?_
      first | exact ⟨(zb_t (by omega)).symm, rfl⟩ | exact ⟨(zb_f (by omega)).symm, rfl⟩
set_option maxHeartbeats 4000000 in
theorem c_X3_kindOf {G : zG} {sz : zSz} {ar : zAr} {s : Int} (hs : zr s) (hn : 0 ≤ sz 3 4 ∧ sz 3 4 ≤ 6)  : zSem G mX3_kindOf 1 [zR 3, zI s] (X sz ar) (zpi fun r u => r = (if 0 ≤ s ∧ s < sz 3 4 then ar 4 s else -1) ∧ u = X sz ar) := by
  refine z_enter (L' := [some (zR 3), some (zI s)]) (by decide +kernel) (Nat.le_of_ble_eq_true rfl) ⟨0, rfl⟩ ?_
  refine z_aload_0 dX3_kindOf_0 (n := 1) rfl ?_
  refine z_iload_1 dX3_kindOf_1 (n := 2) rfl ?_
  refine z_callV1i dX3_kindOf_2 (n := 5) rfl mv_X3_has lk_X3_61 rfl (zrm (by decide) (by decide)) (Nat.le_of_ble_eq_true rfl) (c_X3_has (by first | assumption | exact ⟨by omega, by omega⟩ | exact zb_zr _) (by first | assumption | exact ⟨by omega, by omega⟩ | exact zb_zr _)) (fun r u hp => ?_)
  obtain ⟨rfl, rfl⟩ := hp
  refine z_ifB_eq dX3_kindOf_5 (n := 8) (tg := 17) rfl (by decide) (fun c5 => ?_) (fun c5 => ?_)
  · refine z_iconst dX3_kindOf_17 (n := 18) rfl ?_
    refine z_ret_i dX3_kindOf_18 rfl ?_
    first | exact ⟨(if_pos (by omega)).symm, rfl⟩ | exact ⟨(if_neg (by omega)).symm, rfl⟩
  · refine z_aload_0 dX3_kindOf_8 (n := 9) rfl ?_
    refine z_get dX3_kindOf_9 (n := 12) rfl rfl fd_X3_9 rfl ?_
    refine z_iload_1 dX3_kindOf_12 (n := 13) rfl ?_
    refine z_iald dX3_kindOf_13 (n := 14) rfl rfl (by omega) (by omega) (by decide) ?_
    refine z_goto dX3_kindOf_14 (n := 18) (by decide) ?_
    refine z_ret_i dX3_kindOf_18 rfl ?_
    first | exact ⟨(if_pos (by omega)).symm, rfl⟩ | exact ⟨(if_neg (by omega)).symm, rfl⟩
set_option maxHeartbeats 4000000 in
theorem c_X3_setKind {G : zG} {sz : zSz} {ar : zAr} {s v : Int} (h0 : 0 ≤ s) (h1 : s < sz 3 4) (hn : sz 3 4 ≤ 6)  : zSem G mX3_setKind 1 [zR 3, zI s, zI v] (X sz ar) (zpv fun u => u = X sz (zq ar 4 (zf (ar 4) s v))) := by
  refine z_enter (L' := [some (zR 3), some (zI s), some (zI v)]) (by decide +kernel) (Nat.le_of_ble_eq_true rfl) ⟨0, rfl⟩ ?_
  refine z_aload_0 dX3_setKind_0 (n := 1) rfl ?_
  refine z_iload_1 dX3_setKind_1 (n := 2) rfl ?_
  refine z_callV1i dX3_setKind_2 (n := 5) rfl mv_X3_has lk_X3_61 rfl (zrm (by decide) (by decide)) (Nat.le_of_ble_eq_true rfl) (c_X3_has (by first | assumption | exact ⟨by omega, by omega⟩ | exact zb_zr _) (by first | assumption | exact ⟨by omega, by omega⟩ | exact zb_zr _)) (fun r u hp => ?_)
  obtain ⟨rfl, rfl⟩ := hp
  refine z_ifB_eq dX3_setKind_5 (n := 8) (tg := 15) rfl (by decide) (fun c5 => ?_) (fun c5 => ?_)
  · exfalso; omega
  · refine z_aload_0 dX3_setKind_8 (n := 9) rfl ?_
    refine z_get dX3_setKind_9 (n := 12) rfl rfl fd_X3_9 rfl ?_
    refine z_iload_1 dX3_setKind_12 (n := 13) rfl ?_
    refine z_iload_2 dX3_setKind_13 (n := 14) rfl ?_
    refine z_iastX dX3_setKind_14 (n := 15) rfl rfl (by omega) (by omega) (by decide) rfl ?_
    refine z_ret_v dX3_setKind_15 rfl ?_
    rfl
set_option maxHeartbeats 4000000 in
theorem c_X3_toldNext {G : zG} {sz : zSz} {ar : zAr} {s b : Int} (h0 : 0 ≤ s) (h1 : s < sz 3 4) (hn : sz 3 4 ≤ 6) (hb0 : 0 ≤ b) (hb1 : b ≤ 1)  : zSem G mX3_toldNext 1 [zR 3, zI s, zI b] (X sz ar) (zpi fun r u => r = ar 5 (2 * s + b) ∧ u = X sz ar) := by
  refine z_enter (L' := [some (zR 3), some (zI s), some (zI b)]) (by decide +kernel) (Nat.le_of_ble_eq_true rfl) ⟨0, rfl⟩ ?_
  refine z_aload_0 dX3_toldNext_0 (n := 1) rfl ?_
  refine z_iload_1 dX3_toldNext_1 (n := 2) rfl ?_
  refine z_callV1i dX3_toldNext_2 (n := 5) rfl mv_X3_has lk_X3_61 rfl (zrm (by decide) (by decide)) (Nat.le_of_ble_eq_true rfl) (c_X3_has (by first | assumption | exact ⟨by omega, by omega⟩ | exact zb_zr _) (by first | assumption | exact ⟨by omega, by omega⟩ | exact zb_zr _)) (fun r u hp => ?_)
  obtain ⟨rfl, rfl⟩ := hp
  refine z_ifB_eq dX3_toldNext_5 (n := 8) (tg := 28) rfl (by decide) (fun c5 => ?_) (fun c5 => ?_)
  · exfalso; omega
  · refine z_iload_2 dX3_toldNext_8 (n := 9) rfl ?_
    refine z_callN1i dX3_toldNext_9 (n := 12) rfl ms_X6_isSign lk_X3_65 (zrm (by decide) (by decide)) (Nat.le_of_ble_eq_true rfl) (c_X6_isSign (by first | assumption | exact ⟨by omega, by omega⟩ | exact zb_zr _)) (fun r u hp => ?_)
    obtain ⟨rfl, rfl⟩ := hp
    refine z_ifB_eq dX3_toldNext_12 (n := 15) (tg := 28) rfl (by decide) (fun c12 => ?_) (fun c12 => ?_)
    · exfalso; omega
    · refine z_aload_0 dX3_toldNext_15 (n := 16) rfl ?_
      refine z_get dX3_toldNext_16 (n := 19) rfl rfl fd_X3_15 rfl ?_
      refine z_iconst dX3_toldNext_19 (n := 20) rfl ?_
      refine z_iload_1 dX3_toldNext_20 (n := 21) rfl ?_
      refine z_imul dX3_toldNext_21 (n := 22) rfl ?_
      refine z_iload_2 dX3_toldNext_22 (n := 23) rfl ?_
      refine z_iadd dX3_toldNext_23 (n := 24) rfl ?_
      refine z_iald dX3_toldNext_24 (n := 25) rfl rfl (by omega) (by omega) (by decide) ?_
      refine z_goto dX3_toldNext_25 (n := 29) (by decide) ?_
      refine z_ret_i dX3_toldNext_29 rfl ?_
      exact ⟨rfl, rfl⟩
set_option maxHeartbeats 4000000 in
theorem c_X3_setNext {G : zG} {sz : zSz} {ar : zAr} {s b v : Int} (h0 : 0 ≤ s) (h1 : s < sz 3 4) (hn : sz 3 4 ≤ 6) (hb0 : 0 ≤ b) (hb1 : b ≤ 1)  : zSem G mX3_setNext 1 [zR 3, zI s, zI b, zI v] (X sz ar) (zpv fun u => u = X sz (zq ar 5 (zf (ar 5) (2 * s + b) v))) := by
  refine z_enter (L' := [some (zR 3), some (zI s), some (zI b), some (zI v)]) (by decide +kernel) (Nat.le_of_ble_eq_true rfl) ⟨0, rfl⟩ ?_
  refine z_aload_0 dX3_setNext_0 (n := 1) rfl ?_
  refine z_iload_1 dX3_setNext_1 (n := 2) rfl ?_
  refine z_callV1i dX3_setNext_2 (n := 5) rfl mv_X3_has lk_X3_61 rfl (zrm (by decide) (by decide)) (Nat.le_of_ble_eq_true rfl) (c_X3_has (by first | assumption | exact ⟨by omega, by omega⟩ | exact zb_zr _) (by first | assumption | exact ⟨by omega, by omega⟩ | exact zb_zr _)) (fun r u hp => ?_)
  obtain ⟨rfl, rfl⟩ := hp
  refine z_ifB_eq dX3_setNext_5 (n := 8) (tg := 26) rfl (by decide) (fun c5 => ?_) (fun c5 => ?_)
  · exfalso; omega
  · refine z_iload_2 dX3_setNext_8 (n := 9) rfl ?_
    refine z_callN1i dX3_setNext_9 (n := 12) rfl ms_X6_isSign lk_X3_65 (zrm (by decide) (by decide)) (Nat.le_of_ble_eq_true rfl) (c_X6_isSign (by first | assumption | exact ⟨by omega, by omega⟩ | exact zb_zr _)) (fun r u hp => ?_)
    obtain ⟨rfl, rfl⟩ := hp
    refine z_ifB_eq dX3_setNext_12 (n := 15) (tg := 26) rfl (by decide) (fun c12 => ?_) (fun c12 => ?_)
    · exfalso; omega
    · refine z_aload_0 dX3_setNext_15 (n := 16) rfl ?_
      refine z_get dX3_setNext_16 (n := 19) rfl rfl fd_X3_15 rfl ?_
      refine z_iconst dX3_setNext_19 (n := 20) rfl ?_
      refine z_iload_1 dX3_setNext_20 (n := 21) rfl ?_
      refine z_imul dX3_setNext_21 (n := 22) rfl ?_
      refine z_iload_2 dX3_setNext_22 (n := 23) rfl ?_
      refine z_iadd dX3_setNext_23 (n := 24) rfl ?_
      refine z_iload_3 dX3_setNext_24 (n := 25) rfl ?_
      refine z_iastX dX3_setNext_25 (n := 26) rfl rfl (by omega) (by omega) (by decide) rfl ?_
      refine z_ret_v dX3_setNext_26 rfl ?_
      rfl
set_option maxHeartbeats 4000000 in
theorem c_X3_flipsFirst {G : zG} {sz : zSz} {ar : zAr} {s : Int} (hs : zr s) (hM : MOK (sz 3 4) (ar 4) (ar 5))  : zSem G mX3_flipsFirst 0 [zR 3, zI s] (X sz ar) (zpi fun r u => r = zb (0 ≤ s ∧ s < sz 3 4 ∧ fl (ar 4) s) ∧ u = X sz ar) := by
  refine z_enter (L' := [some (zR 3), some (zI s), none]) (by decide +kernel) (Nat.le_of_ble_eq_true rfl) ⟨1, rfl⟩ ?_
  have hn := hM.1
  have hn6 := hM.2.1
  refine z_iload_1 dX3_flipsFirst_0 (n := 1) rfl ?_
  refine z_if_lt dX3_flipsFirst_1 (n := 4) (tg := 12) rfl (by decide) (by first | assumption | exact ⟨by omega, by omega⟩ | exact zb_zr _) (fun c1 => ?_) (fun c1 => ?_)
  · refine z_iconst dX3_flipsFirst_12 (n := 13) rfl ?_
    refine z_ret_z dX3_flipsFirst_13 rfl (by first | exact Or.inl rfl | exact Or.inr rfl | exact zb_or _) ?_
    first | exact ⟨(zb_t (by unfold fl; omega)).symm, rfl⟩ | exact ⟨(zb_f (by unfold fl; omega)).symm, rfl⟩
  · refine z_iload_1 dX3_flipsFirst_4 (n := 5) rfl ?_
    refine z_aload_0 dX3_flipsFirst_5 (n := 6) rfl ?_
    refine z_get dX3_flipsFirst_6 (n := 9) rfl rfl fd_X3_24 rfl ?_
    refine z_icmp_lt dX3_flipsFirst_9 (n := 12) (tg := 14) rfl (by decide) (by first | assumption | exact ⟨by omega, by omega⟩ | exact zb_zr _) (by first | assumption | exact ⟨by omega, by omega⟩ | exact zb_zr _) (fun c9 => ?_) (fun c9 => ?_)
    · have hk := hM.2.2.1 s (by omega) (by omega)
      refine z_aload_0 dX3_flipsFirst_14 (n := 15) rfl ?_
      refine z_get dX3_flipsFirst_15 (n := 18) rfl rfl fd_X3_9 rfl ?_
      refine z_iload_1 dX3_flipsFirst_18 (n := 19) rfl ?_
      refine z_iald dX3_flipsFirst_19 (n := 20) rfl rfl (by omega) (by omega) (by decide) ?_
      refine z_istore_2 dX3_flipsFirst_20 (n := 21) rfl (by decide) (fun w h => by cases h; try rfl) ?_
      refine z_iload_2 dX3_flipsFirst_21 (n := 22) rfl ?_
      refine z_iconst dX3_flipsFirst_22 (n := 23) rfl ?_
      refine z_icmp_eq dX3_flipsFirst_23 (n := 26) (tg := 36) rfl (by decide) (by first | assumption | exact ⟨by omega, by omega⟩ | exact zb_zr _) (by first | assumption | exact ⟨by omega, by omega⟩ | exact zb_zr _) (fun c23 => ?_) (fun c23 => ?_)
      · refine z_iconst dX3_flipsFirst_36 (n := 37) rfl ?_
        refine z_goto dX3_flipsFirst_37 (n := 41) (by decide) ?_
        refine z_ret_z dX3_flipsFirst_41 rfl (by first | exact Or.inl rfl | exact Or.inr rfl | exact zb_or _) ?_
        first | exact ⟨(zb_t (by unfold fl; omega)).symm, rfl⟩ | exact ⟨(zb_f (by unfold fl; omega)).symm, rfl⟩
      · refine z_iload_2 dX3_flipsFirst_26 (n := 27) rfl ?_
        refine z_iconst dX3_flipsFirst_27 (n := 28) rfl ?_
        refine z_icmp_eq dX3_flipsFirst_28 (n := 31) (tg := 36) rfl (by decide) (by first | assumption | exact ⟨by omega, by omega⟩ | exact zb_zr _) (by first | assumption | exact ⟨by omega, by omega⟩ | exact zb_zr _) (fun c28 => ?_) (fun c28 => ?_)
        · refine z_iconst dX3_flipsFirst_36 (n := 37) rfl ?_
          refine z_goto dX3_flipsFirst_37 (n := 41) (by decide) ?_
          refine z_ret_z dX3_flipsFirst_41 rfl (by first | exact Or.inl rfl | exact Or.inr rfl | exact zb_or _) ?_
          first | exact ⟨(zb_t (by unfold fl; omega)).symm, rfl⟩ | exact ⟨(zb_f (by unfold fl; omega)).symm, rfl⟩
        · refine z_iload_2 dX3_flipsFirst_31 (n := 32) rfl ?_
          refine z_iconst dX3_flipsFirst_32 (n := 33) rfl ?_
          refine z_icmp_ne dX3_flipsFirst_33 (n := 36) (tg := 40) rfl (by decide) (by first | assumption | exact ⟨by omega, by omega⟩ | exact zb_zr _) (by first | assumption | exact ⟨by omega, by omega⟩ | exact zb_zr _) (fun c33 => ?_) (fun c33 => ?_)
          · refine z_iconst dX3_flipsFirst_40 (n := 41) rfl ?_
            refine z_ret_z dX3_flipsFirst_41 rfl (by first | exact Or.inl rfl | exact Or.inr rfl | exact zb_or _) ?_
            first | exact ⟨(zb_t (by unfold fl; omega)).symm, rfl⟩ | exact ⟨(zb_f (by unfold fl; omega)).symm, rfl⟩
          · refine z_iconst dX3_flipsFirst_36 (n := 37) rfl ?_
            refine z_goto dX3_flipsFirst_37 (n := 41) (by decide) ?_
            refine z_ret_z dX3_flipsFirst_41 rfl (by first | exact Or.inl rfl | exact Or.inr rfl | exact zb_or _) ?_
            first | exact ⟨(zb_t (by unfold fl; omega)).symm, rfl⟩ | exact ⟨(zb_f (by unfold fl; omega)).symm, rfl⟩
    · refine z_iconst dX3_flipsFirst_12 (n := 13) rfl ?_
      refine z_ret_z dX3_flipsFirst_13 rfl (by first | exact Or.inl rfl | exact Or.inr rfl | exact zb_or _) ?_
      first | exact ⟨(zb_t (by unfold fl; omega)).symm, rfl⟩ | exact ⟨(zb_f (by unfold fl; omega)).symm, rfl⟩
set_option maxHeartbeats 4000000 in
theorem c_X3_goesOn {G : zG} {sz : zSz} {ar : zAr} {s w : Int} (hs : zr s) (hw : 0 ≤ w ∧ w ≤ 1) (hM : MOK (sz 3 4) (ar 4) (ar 5))  : zSem G mX3_goesOn 0 [zR 3, zI s, zI w] (X sz ar) (zpi fun r u => r = (if 0 ≤ s ∧ s < sz 3 4 then gon (ar 4) (ar 5) s w else -1) ∧ u = X sz ar) := by
  refine z_enter (L' := [some (zR 3), some (zI s), some (zI w), none]) (by decide +kernel) (Nat.le_of_ble_eq_true rfl) ⟨1, rfl⟩ ?_
  have hn := hM.1
  have hn6 := hM.2.1
  refine z_iload_1 dX3_goesOn_0 (n := 1) rfl ?_
  refine z_if_lt dX3_goesOn_1 (n := 4) (tg := 21) rfl (by decide) (by first | assumption | exact ⟨by omega, by omega⟩ | exact zb_zr _) (fun c1 => ?_) (fun c1 => ?_)
  · refine z_iconst dX3_goesOn_21 (n := 22) rfl ?_
    refine z_ret_i dX3_goesOn_22 rfl ?_
    first | exact ⟨(if_neg (by omega)).symm, rfl⟩ | exact ⟨by unfold gon; rw [if_neg (by omega), if_neg (by omega)], rfl⟩ | exact ⟨by unfold gon; rw [if_neg (by omega), if_pos (by omega)], rfl⟩ | exact ⟨by unfold gon; rw [if_pos (by omega)], rfl⟩
  · refine z_iload_1 dX3_goesOn_4 (n := 5) rfl ?_
    refine z_aload_0 dX3_goesOn_5 (n := 6) rfl ?_
    refine z_get dX3_goesOn_6 (n := 9) rfl rfl fd_X3_24 rfl ?_
    refine z_icmp_ge dX3_goesOn_9 (n := 12) (tg := 21) rfl (by decide) (by first | assumption | exact ⟨by omega, by omega⟩ | exact zb_zr _) (by first | assumption | exact ⟨by omega, by omega⟩ | exact zb_zr _) (fun c9 => ?_) (fun c9 => ?_)
    · refine z_iconst dX3_goesOn_21 (n := 22) rfl ?_
      refine z_ret_i dX3_goesOn_22 rfl ?_
      first | exact ⟨(if_neg (by omega)).symm, rfl⟩ | exact ⟨by unfold gon; rw [if_neg (by omega), if_neg (by omega)], rfl⟩ | exact ⟨by unfold gon; rw [if_neg (by omega), if_pos (by omega)], rfl⟩ | exact ⟨by unfold gon; rw [if_pos (by omega)], rfl⟩
    · refine z_iload_2 dX3_goesOn_12 (n := 13) rfl ?_
      refine z_if_lt dX3_goesOn_13 (n := 16) (tg := 21) rfl (by decide) (by first | assumption | exact ⟨by omega, by omega⟩ | exact zb_zr _) (fun c13 => ?_) (fun c13 => ?_)
      · exfalso; omega
      · refine z_iload_2 dX3_goesOn_16 (n := 17) rfl ?_
        refine z_iconst dX3_goesOn_17 (n := 18) rfl ?_
        refine z_icmp_le dX3_goesOn_18 (n := 21) (tg := 23) rfl (by decide) (by first | assumption | exact ⟨by omega, by omega⟩ | exact zb_zr _) (by first | assumption | exact ⟨by omega, by omega⟩ | exact zb_zr _) (fun c18 => ?_) (fun c18 => ?_)
        · have hk := hM.2.2.1 s (by omega) (by omega)
          rw [if_pos (show 0 ≤ s ∧ s < sz 3 4 by omega)]
          refine z_aload_0 dX3_goesOn_23 (n := 24) rfl ?_
          refine z_get dX3_goesOn_24 (n := 27) rfl rfl fd_X3_9 rfl ?_
          refine z_iload_1 dX3_goesOn_27 (n := 28) rfl ?_
          refine z_iald dX3_goesOn_28 (n := 29) rfl rfl (by omega) (by omega) (by decide) ?_
          refine z_istore_3 dX3_goesOn_29 (n := 30) rfl (by decide) (fun w h => by cases h; try rfl) ?_
          refine z_iload_3 dX3_goesOn_30 (n := 31) rfl ?_
          refine z_iconst dX3_goesOn_31 (n := 32) rfl ?_
          refine z_icmp_eq dX3_goesOn_32 (n := 35) (tg := 40) rfl (by decide) (by first | assumption | exact ⟨by omega, by omega⟩ | exact zb_zr _) (by first | assumption | exact ⟨by omega, by omega⟩ | exact zb_zr _) (fun c32 => ?_) (fun c32 => ?_)
          · refine z_iconst dX3_goesOn_40 (n := 41) rfl ?_
            refine z_ret_i dX3_goesOn_41 rfl ?_
            first | exact ⟨(if_neg (by omega)).symm, rfl⟩ | exact ⟨by unfold gon; rw [if_neg (by omega), if_neg (by omega)], rfl⟩ | exact ⟨by unfold gon; rw [if_neg (by omega), if_pos (by omega)], rfl⟩ | exact ⟨by unfold gon; rw [if_pos (by omega)], rfl⟩
          · refine z_iload_3 dX3_goesOn_35 (n := 36) rfl ?_
            refine z_iconst dX3_goesOn_36 (n := 37) rfl ?_
            refine z_icmp_ne dX3_goesOn_37 (n := 40) (tg := 42) rfl (by decide) (by first | assumption | exact ⟨by omega, by omega⟩ | exact zb_zr _) (by first | assumption | exact ⟨by omega, by omega⟩ | exact zb_zr _) (fun c37 => ?_) (fun c37 => ?_)
            · refine z_aload_0 dX3_goesOn_42 (n := 43) rfl ?_
              refine z_get dX3_goesOn_43 (n := 46) rfl rfl fd_X3_15 rfl ?_
              refine z_iconst dX3_goesOn_46 (n := 47) rfl ?_
              refine z_iload_1 dX3_goesOn_47 (n := 48) rfl ?_
              refine z_imul dX3_goesOn_48 (n := 49) rfl ?_
              refine z_iload_3 dX3_goesOn_49 (n := 50) rfl ?_
              refine z_iconst dX3_goesOn_50 (n := 51) rfl ?_
              refine z_icmp_ne dX3_goesOn_51 (n := 54) (tg := 60) rfl (by decide) (by first | assumption | exact ⟨by omega, by omega⟩ | exact zb_zr _) (by first | assumption | exact ⟨by omega, by omega⟩ | exact zb_zr _) (fun c51 => ?_) (fun c51 => ?_)
              · refine z_iload_2 dX3_goesOn_60 (n := 61) rfl ?_
                refine z_iadd dX3_goesOn_61 (n := 62) rfl ?_
                refine z_iald dX3_goesOn_62 (n := 63) rfl rfl (by omega) (by omega) (by decide) ?_
                refine z_ret_i dX3_goesOn_63 rfl ?_
                first | exact ⟨(if_neg (by omega)).symm, rfl⟩ | exact ⟨by unfold gon; rw [if_neg (by omega), if_neg (by omega)], rfl⟩ | exact ⟨by unfold gon; rw [if_neg (by omega), if_pos (by omega)], rfl⟩ | exact ⟨by unfold gon; rw [if_pos (by omega)], rfl⟩
              · refine z_iconst dX3_goesOn_54 (n := 55) rfl ?_
                refine z_iload_2 dX3_goesOn_55 (n := 56) rfl ?_
                refine z_isub dX3_goesOn_56 (n := 57) rfl ?_
                refine z_goto dX3_goesOn_57 (n := 61) (by decide) ?_
                refine z_iadd dX3_goesOn_61 (n := 62) rfl ?_
                refine z_iald dX3_goesOn_62 (n := 63) rfl rfl (by omega) (by omega) (by decide) ?_
                refine z_ret_i dX3_goesOn_63 rfl ?_
                first | exact ⟨(if_neg (by omega)).symm, rfl⟩ | exact ⟨by unfold gon; rw [if_neg (by omega), if_neg (by omega)], rfl⟩ | exact ⟨by unfold gon; rw [if_neg (by omega), if_pos (by omega)], rfl⟩ | exact ⟨by unfold gon; rw [if_pos (by omega)], rfl⟩
            · refine z_iconst dX3_goesOn_40 (n := 41) rfl ?_
              refine z_ret_i dX3_goesOn_41 rfl ?_
              first | exact ⟨(if_neg (by omega)).symm, rfl⟩ | exact ⟨by unfold gon; rw [if_neg (by omega), if_neg (by omega)], rfl⟩ | exact ⟨by unfold gon; rw [if_neg (by omega), if_pos (by omega)], rfl⟩ | exact ⟨by unfold gon; rw [if_pos (by omega)], rfl⟩
        · exfalso; omega
end
